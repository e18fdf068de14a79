def knV (P : PD) (cm : Nat → Nat) (D : DS) (d b : Nat) : Nat → Int32 := fun k => match k with
  | 0 => nI (cm b)
  | 1 => nI (fcN cm P.2.1)
  | 2 => nI ((lsN cm D.2.2 P.2.1).getD 23)
  | 3 => g0 (D.1 201 b)
  | 4 => D.1 199 b
  | 5 => g0 (D.1 202 b)
  | 6 => nI d
  | 7 => nI (P.2.2.2.2.2.2 b 1)
  | 8 => nI (P.2.2.2.2.2.2 b 0)
  | 9 => nI P.1
  | _ => nI P.2.1
/-- when one comes next -/
def nxN (P : PD) (H : Nat → HBt) (wh cm : Nat → Nat) (D : DS) (d b : Nat) : Nat := uN (clH ((H (wh b)).2 (knV P cm D d b)))
theorem nxN_lt {P : PD} {H : Nat → HBt} {wh cm : Nat → Nat} {D : DS} {d b : Nat} : nxN P H wh cm D d b < 24 := (clH_u _).2
theorem kn11 {p q : Nat → Int32} (h : p 0 = q 0 ∧ p 1 = q 1 ∧ p 2 = q 2 ∧ p 3 = q 3 ∧ p 4 = q 4 ∧ p 5 = q 5 ∧ p 6 = q 6 ∧ p 7 = q 7 ∧ p 8 = q 8 ∧ p 9 = q 9 ∧ p 10 = q 10) : ∀ k, k < 11 → p k = q k := fun k hk => by
  obtain ⟨h0, h1, h2, h3, h4, h5, h6, h7, h8, h9, h10⟩ := h
  match k, hk with
  | 0, _ => exact h0
  | 1, _ => exact h1
  | 2, _ => exact h2
  | 3, _ => exact h3
  | 4, _ => exact h4
  | 5, _ => exact h5
  | 6, _ => exact h6
  | 7, _ => exact h7
  | 8, _ => exact h8
  | 9, _ => exact h9
  | 10, _ => exact h10
  | k + 11, hk => exact absurd hk (by omega)
def rS (x : pMI) (P : PD) (H : Nat → HBt) (wh rk : Nat → Nat) (un : Nat) : Prop := rfP x P ∧ rfHb x H ∧ (∀ b, b < 8 → x 229 b = nI (wh b) ∧ wh b < 8) ∧ (∀ b, b < 8 → x 197 b = nI (rk b)) ∧ x 87 53 = nI un
/-- the reference's world when a day was gone through -/
def RDY (x : pMI) (P : PD) (cm : Nat → Nat) (D : DS) : Prop :=
  (∀ b, b < P.2.1 → x 194 b = nI (cm b) ∧ cm b < 24 ∧ x 198 b = oI (D.2.1 198 b) ∧ x 199 b = D.1 199 b ∧ x 200 b = D.1 200 b ∧ netM x b = netM (wD D) b ∧ x 201 b = D.1 201 b ∧ x 202 b = D.1 202 b ∧ x 203 b = D.1 203 b ∧ ∃ n, n < 1000 ∧ D.1 201 b = nI n) ∧
  (∀ c, c < P.1 → x 206 c = D.1 206 c ∧ x 207 c = D.1 207 c ∧ x 208 c = D.1 208 c ∧ ∀ j, j < 24 → x (211 + c) j = D.1 (211 + c) j ∧ ((x (211 + c) j = -1 ∧ x (220 + c) j = -1) ∨ ∃ b, b < P.2.1 ∧ x (211 + c) j = nI b ∧ x (220 + c) j = if j < P.2.2.2.2.2.2 b 1 then -1 else nI b)) ∧
  (∀ j, j < 24 → x 209 j = D.1 209 j) ∧ ∃ G : Nat → Bool, (∀ b, b < P.2.1 → x 228 b = bI (G b)) ∧ (lsN cm G P.2.1).getD 23 = (lsN cm D.2.2 P.2.1).getD 23
/-- what the reference's days leave as it was -/
def frR (m x : pMI) : Prop := ∀ i, i ≠ 130 → i ≠ 131 → i ≠ 194 → i ≠ 230 → (i < 195 ∨ i = 197 ∨ 228 < i) → x i = m i
theorem frR_r {m : pMI} : frR m m := fun _ _ _ _ _ _ => rfl
theorem frR_t {a b c : pMI} (h1 : frR a b) (h2 : frR b c) : frR a c := fun i p q r s t => (h2 i p q r s t).trans (h1 i p q r s t)
theorem rfP_row {m x : pMI} {P : PD} (hP : okPD P) (h : frR m x) (hr : rfP m P) : rfP x P := by
  have h1 := hP.1
  have h2 := hP.2.1
  obtain ⟨a1, a2, a3, a4, a5, a6, a7⟩ := hr
  rw [← h 91 (by omega) (by omega) (by omega) (by omega) (by omega)] at a1 a2 a3 a4 a5
  refine ⟨a1, a2, a3, a4, a5, fun c hc => ?_, fun g hg => ?_⟩
  · rw [h (102 + c) (by omega) (by omega) (by omega) (by omega) (by omega)]; exact a6 c hc
  · rw [h (121 + g) (by omega) (by omega) (by omega) (by omega) (by omega)]; exact a7 g hg
theorem rfHb_row {m x : pMI} {H : Nat → HBt} (h : frR m x) (hr : rfHb m H) : rfHb x H := fun o ho => by
  rw [h 129 (by omega) (by omega) (by omega) (by omega) (by omega), h (134 + o) (by omega) (by omega) (by omega) (by omega) (by omega)]; exact hr o ho
theorem rS_row {m x : pMI} {P : PD} {H : Nat → HBt} {wh rk : Nat → Nat} {un : Nat} (hP : okPD P) (h : frR m x) (hr : rS m P H wh rk un) : rS x P H wh rk un := by
  refine ⟨rfP_row hP h hr.1, rfHb_row h hr.2.1, ?_, ?_, ?_⟩
  · rw [h 229 (by omega) (by omega) (by omega) (by omega) (by omega)]; exact hr.2.2.1
  · rw [h 197 (by omega) (by omega) (by omega) (by omega) (by omega)]; exact hr.2.2.2.1
  · rw [h 87 (by omega) (by omega) (by omega) (by omega) (by omega)]; exact hr.2.2.2.2
def rnW (P : PD) (cm rk ord : Nat → Nat) (un : Nat) (x : pMI) : pMI := wD (dayD x P.1 P.2.1 (pF P) (pT P) cm rk ord (nI un) P.2.2.1)
theorem runs_R (Γ : pTG) (g : pGG) (x : pMI) (ml : pML) (hSh : Sh g) (P : PD) (hP : okPD P) (H : Nat → HBt) (wh rk ord cm : Nat → Nat) (un : Nat) (hu : 1 ≤ un ∧ un < 24) (hS : rS x P H wh rk un) (hO : okO2 P.2.1 rk ord) (hcm : ∀ b, b < P.2.1 → x 194 b = nI (cm b) ∧ cm b < 24) :
    cV Γ 5 mX12_runs [.ref 87] g x ml (rnW P cm rk ord un x) ml ∧ RDY (rnW P cm rk ord un x) P cm (DY P cm rk ord un) ∧ frR x (rnW P cm rk ord un x) := by
  have hD := rf_day hS.1 hP hcm hS.2.2.2.1 hO hS.2.2.2.2
  have hC8 := hP.1
  have hG8 := hP.2.1
  refine ⟨c_runs Γ g x ml hSh _ _ _ _ cm rk ord (nI un) _ hD, ?_, ?_⟩
  · obtain ⟨e1, e2, e3, e4, e5⟩ := ref_eq hP hS.1 hcm hS.2.2.2.1 hO hS.2.2.2.2 hu
    obtain ⟨_, hfm⟩ := day_ok hD
    unfold rnW
    generalize dayD x P.1 P.2.1 (pF P) (pT P) cm rk ord (nI un) P.2.2.1 = d at e1 e2 e3 e4 e5 hfm ⊢
    refine ⟨fun b hb => ?_, fun c hc => ?_, fun j hj => ?_, d.2.2, fun b hb => wD_b (by omega), e4⟩
    · obtain ⟨p1, p2, p3, p4, p5, p6, p7, p8⟩ := e1 b hb
      rw [wD_lt (show (194 : Nat) < 195 by omega), hfm 194 (by omega), wD_o (by decide) (by omega), wD_m (i := 199) (by decide) (by decide), wD_m (i := 200) (by decide) (by decide), wD_m (i := 201) (by decide) (by decide), wD_m (i := 202) (by decide) (by decide), wD_m (i := 203) (by decide) (by decide)]
      exact ⟨(hcm b hb).1, (hcm b hb).2, p1, p2, p3, p4, p5, p6, p7, p8⟩
    · obtain ⟨p1, p2, p3, p4⟩ := e2 c hc
      have o1 : oRow (211 + c) = false := by simp [oRow]; omega
      have o2 : oRow (220 + c) = false := by simp [oRow]; omega
      rw [wD_m (i := 206) (by decide) (by decide), wD_m (i := 207) (by decide) (by decide), wD_m (i := 208) (by decide) (by decide), wD_m o1 (by omega), wD_m o2 (by omega)]
      exact ⟨p1, p2, p3, fun j hj => ⟨p4 j hj, e5 c hc j hj⟩⟩
    · rw [wD_m (i := 209) (by decide) (by decide)]; exact e3 j hj
  · obtain ⟨_, hfm⟩ := day_ok hD
    intro i h1 h2 h3 h4 h5
    unfold rnW
    by_cases hi : i < 195
    · rw [wD_lt hi, hfm i (by omega)]
    · by_cases hi2 : i = 197
      · rw [hi2, wD_m (by decide) (by decide), hfm 197 (by omega)]
      · have o1 : oRow i = false := by simp [oRow]; omega
        rw [wD_m o1 (by omega), hfm i (by omega)]
def asW (P : PD) (H : Nat → HBt) (wh cm : Nat → Nat) (D : DS) (d : Nat) (x : pMI) : pMI := lpS cpS 0 P.2.1 (lpS (akS H wh (nI (fcN cm P.2.1)) (nI ((lsN cm D.2.2 P.2.1).getD 23)) (nI d)) 0 P.2.1 x)
theorem cp_r : ∀ (k : Nat) (x : pMI), (∀ i, i ≠ 194 → lpS cpS 0 k x i = x i) ∧ (∀ b, lpS cpS 0 k x 194 b = if b < k then x 230 b else x 194 b)
  | 0, x => ⟨fun _ _ => rfl, fun b => by rw [if_neg (by omega)]; rfl⟩
  | k + 1, x => by
    obtain ⟨i1, i2⟩ := cp_r k x
    rw [lpS_snoc, Nat.zero_add]
    generalize lpS cpS 0 k x = z at i1 i2 ⊢
    unfold cpS
    refine ⟨fun i hi => (up2_row hi).trans (i1 i hi), fun b => ?_⟩
    rw [i1 230 (by omega)]
    by_cases hb : b = k
    · subst hb; rw [up2_s, if_pos (by omega)]
    · rw [up2_n hb, i2]
      by_cases h2 : b < k
      · rw [if_pos h2, if_pos (by omega)]
      · rw [if_neg h2, if_neg (by omega)]
theorem ak_r {P : PD} {H : Nat → HBt} {wh cm : Nat → Nat} {D : DS} {d : Nat} {x : pMI} (hH : okH H) (hP : okPD P) (hr : rfP x P) (hR : RDY x P cm D) (hw : ∀ b, b < 8 → wh b < 8) : ∀ k, k ≤ P.2.1 → (∀ i, i ≠ 130 ∧ i ≠ 131 ∧ i ≠ 230 → lpS (akS H wh (nI (fcN cm P.2.1)) (nI ((lsN cm D.2.2 P.2.1).getD 23)) (nI d)) 0 k x i = x i) ∧ (∀ b, b < k → lpS (akS H wh (nI (fcN cm P.2.1)) (nI ((lsN cm D.2.2 P.2.1).getD 23)) (nI d)) 0 k x 230 b = nI (nxN P H wh cm D d b))
  | 0, _ => ⟨fun _ _ => rfl, fun b hb => absurd hb (by omega)⟩
  | k + 1, hk => by
    obtain ⟨i1, i2⟩ := ak_r (d := d) hH hP hr hR hw k (by omega)
    rw [lpS_snoc, Nat.zero_add]
    generalize lpS (akS H wh (nI (fcN cm P.2.1)) (nI ((lsN cm D.2.2 P.2.1).getD 23)) (nI d)) 0 k x = z at i1 i2 ⊢
    have hG8 := hP.2.1
    refine ⟨fun i hi => (akS_row hi).trans (i1 i hi), fun b hb => ?_⟩
    unfold akS
    dsimp only
    by_cases hbk : b = k
    · subst hbk
      rw [up2_s]
      obtain ⟨r1, r2, r3, r4, r5, r6, r7, r8, r9, _⟩ := hR.1 b (by omega)
      obtain ⟨u1, u2, u3, u4⟩ := hr.2.2.2.2.2.2 b (by omega)
      obtain ⟨_, n9, d9, hV, _⟩ := hH (wh b) (hw b (by omega))
      have hk : ∀ q, q < 11 → kwS (up2 (up2 (up2 (up2 (up2 (up2 (up2 z 131 0 (z 194 b)) 131 1 (nI (fcN cm P.2.1))) 131 2 (nI ((lsN cm D.2.2 P.2.1).getD 23))) 131 3 (g0 (z 201 b))) 131 4 (z 199 b)) 131 5 (g0 (z 202 b))) 131 6 (nI d)) b 131 q = knV P cm D d b q := by
        refine kn11 ?_
        unfold kwS
        have e194 : z 194 b = nI (cm b) := by rw [i1 194 (by omega)]; exact r1
        have e201 : z 201 b = D.1 201 b := by rw [i1 201 (by omega)]; exact r7
        have e199 : z 199 b = D.1 199 b := by rw [i1 199 (by omega)]; exact r4
        have e202 : z 202 b = D.1 202 b := by rw [i1 202 (by omega)]; exact r8
        have e1 : z (121 + b) 1 = nI (P.2.2.2.2.2.2 b 1) := by rw [i1 (121 + b) (by omega)]; exact u2
        have e0 : z (121 + b) 0 = nI (P.2.2.2.2.2.2 b 0) := by rw [i1 (121 + b) (by omega)]; exact u1
        have e90 : z 91 0 = nI P.1 := by rw [i1 91 (by omega)]; exact hr.1
        have e91 : z 91 1 = nI P.2.1 := by rw [i1 91 (by omega)]; exact hr.2.1
        have q1 : ∀ (A : pMI) (j : Nat) (v : Int32), up2 A 131 j v (121 + b) = A (121 + b) := fun A j v => up2_row (by omega)
        have q2 : ∀ (A : pMI) (j : Nat) (v : Int32), up2 A 131 j v 91 = A 91 := fun A j v => up2_row (by omega)
        simp only [q1, q2, e194, e201, e199, e202, e1, e0, e90, e91]
        refine ⟨?_, ?_, ?_, ?_, ?_, ?_, ?_, ?_, ?_, ?_, ?_⟩ <;> simp [up2, knV]
      rw [Vx_congr hk n9 _ _ d9 hV]
      exact (clH_u _).1
    · rw [up2_n hbk, cbW_row (by omega), kwS_row (by omega), up2_row (by omega), up2_row (by omega), up2_row (by omega), up2_row (by omega), up2_row (by omega), up2_row (by omega), up2_row (by omega)]
      exact i2 b (by omega)
theorem asks_R (Γ : pTG) (g : pGG) (x : pMI) (ml : pML) (hSh : Sh g) (P : PD) (hP : okPD P) (H : Nat → HBt) (hH : okH H) (wh rk cm : Nat → Nat) (un : Nat) (D : DS) (d : Nat) (hS : rS x P H wh rk un) (hR : RDY x P cm D) :
    cV Γ 4 mX12_asks [.ref 87, .int (nI d)] g x ml (asW P H wh cm D d x) ml ∧ (∀ b, b < P.2.1 → asW P H wh cm D d x 194 b = nI (nxN P H wh cm D d b)) ∧ frR x (asW P H wh cm D d x) := by
  have hG8 := hP.2.1
  obtain ⟨G, hG1, hG2⟩ := hR.2.2.2
  refine ⟨?_, ?_, ?_⟩
  · have z := c_asks Γ g x ml hSh P.2.1 hS.1.2.1 hP.2.1 cm (fun b => P.2.2.2.2.2.2 b 0) wh G (fun b hb => ⟨(hR.1 b hb).1, (hR.1 b hb).2.1⟩) hG1 (fun b hb => ⟨(hS.1.2.2.2.2.2.2 b hb).1, (hP.2.2.2.2.2.2.2 b hb).1⟩) (fun b hb => hS.2.2.1 b (by omega)) H hH hS.2.1 (nI d)
    rw [hG2] at z
    exact z
  · intro b hb
    unfold asW
    rw [(cp_r _ _).2, if_pos hb]
    exact (ak_r hH hP hS.1 hR (fun b hb => (hS.2.2.1 b hb).2) P.2.1 (Nat.le_refl _)).2 b hb
  · intro i h1 h2 h3 h4 h5
    unfold asW
    rw [(cp_r _ _).1 i h3]
    exact (ak_r hH hP hS.1 hR (fun b hb => (hS.2.2.1 b hb).2) P.2.1 (Nat.le_refl _)).1 i ⟨h1, h2, h4⟩

section REL4
variable {t nC nG : Nat} {m n : pMI} {F T cm rk ord : Nat → Nat} {h e : Nat} {s : DS} {y : CS}
theorem best_eq {b : Nat} (hL : PL2 t nC nG m n F T h) (H : HR t nC nG m n F T h e s y) : bsD (vC y.1 F T b h) y.2.2.2.2.2.2.1 nC = bsD (fun c => wM m F T b h c) (fun c => (s.2.1 204 c).isNone) nC := by
  refine bsD_congr (fun c hc => ⟨?_, ?_⟩)
  · rw [vC_fr H.2.2 hL.2.1]
    unfold vC wM
    rw [(hL.1 c hc).1, (hL.1 c hc).2]
  · rw [H.1.2.2.2 c]; simp [hc]
theorem fz_eq {W : Nat → Int32} (hL : PL2 t nC nG m n F T h) (H : HR t nC nG m n F T h e s y) : mkB y.2.2.2.2.2.2.1 = 0 ↔ bsD W (fun c => (s.2.1 204 c).isNone) nC = none := by
  rw [bsD_none]
  have h0 : mkB y.2.2.2.2.2.2.1 = 0 ↔ ¬ ∃ i, i < 32 ∧ y.2.2.2.2.2.2.1 i = true := by rw [← mkB_ne]; exact Decidable.not_not.symm
  rw [h0]
  refine ⟨fun q c hc => ?_, fun q ⟨i, hi, hp⟩ => ?_⟩
  · cases hz : (s.2.1 204 c).isNone with
    | false => rfl
    | true => exact absurd ⟨c, by have := hL.2.2.2.1; omega, by rw [H.1.2.2.2 c, hz]; simp [hc]⟩ q
  · rw [H.1.2.2.2 i] at hp
    simp only [Bool.and_eq_true, decide_eq_true_eq] at hp
    rw [q i hp.1] at hp
    exact absurd hp.2 (by decide)
def NYq (nG : Nat) (cm rk : Nat → Nat) (h q : Nat) (s : DS) : Prop := ∀ b, b < nG → (h < cm b ∨ (cm b = h ∧ q ≤ rk b)) → s.2.1 195 b = none ∧ s.2.1 196 b = none ∧ s.2.2 b = false
def LT (nG : Nat) (T : Nat → Nat) (h : Nat) (s : DS) : Prop := ∀ b, b < nG → T b < h → s.2.1 195 b = none ∧ s.2.1 196 b = none
def LSR (t nG : Nat) (cm : Nat → Nat) (s : DS) (y : CS) : Prop := (y.1 t 14 = nI 23 ∧ ∀ b, b < nG → s.2.2 b = false) ∨ ∃ b, b < nG ∧ s.2.2 b = true ∧ y.1 t 14 = nI (cm b) ∧ ∀ a, a < nG → s.2.2 a = true → cm a ≤ cm b
def F29 (s s' : DS) : Prop := ∀ i, 209 ≤ i → s'.1 i = s.1 i
theorem F29_r : F29 s s := fun _ _ => rfl
theorem F29_t {s1 s2 : DS} (h1 : F29 s s1) (h2 : F29 s1 s2) : F29 s s2 := fun i hi => (h2 i hi).trans (h1 i hi)
theorem sit_o {b c a i : Nat} (hi : i = 195 ∨ i = 196) (hab : a ≠ b) : (sitD b h c s).2.1 i a = s.2.1 i a := by
  unfold sitD
  dsimp only
  rw [up2_nn (by omega), up2_nn (by omega), up2_nn (by omega), up2_nn (by omega)]
theorem sit_29 {b c : Nat} : F29 s (sitD b h c s) := fun i hi => by
  unfold sitD
  dsimp only
  rw [up2_row (by omega), up2_row (by omega), up2_row (by omega)]
theorem bt_14 {b : Nat} : (btC t nC F T b h y).1 t 14 = y.1 t 14 := by
  unfold btC
  split
  · rfl
  · rw [tbC_1, up2_row (by omega)]
theorem bt_bz {b : Nat} : (btC t nC F T b h y).2.2.2.2.2.2.2 = y.2.2.2.2.2.2.2 := by
  unfold btC
  split
  · rfl
  · unfold tbC; split <;> rfl
/-- all that goes through the coming of guests -/
def ARI (t nC nG : Nat) (m n : pMI) (F T cm rk : Nat → Nat) (h e q : Nat) (s0 : DS) (y0 : CS) (s : DS) (y : CS) : Prop :=
  HR t nC nG m n F T h e s y ∧ NYq nG cm rk h q s ∧ LT nG T (h + 1) s ∧ LSR t nG cm s y ∧ y.2.2.2.2.2.1 = y0.2.2.2.2.2.1 ∧ y.2.2.2.2.2.2.2 = y0.2.2.2.2.2.2.2 ∧ ktM nG cm y ∧ F29 s0 s ∧ (∀ b, b < nG → s.2.1 196 b = s0.2.1 196 b ∨ (s0.2.1 196 b = none ∧ s.2.1 196 b = some h))
theorem ar_step {q : Nat} {s0 : DS} {y0 : CS} (hL : PL2 t nC nG m n F T h) (he : e < 1000) (hq : q < nG) (hor : ord q < nG) (hrk : rk (ord q) = q) (hinj : ∀ b, b < nG → rk b = q → b = ord q) (HA : ARI t nC nG m n F T cm rk h e q s0 y0 s y) :
    ARI t nC nG m n F T cm rk h (e + 1) (q + 1) s0 y0 (arD (fun g c => wM m F T g h c) cm T ord nC h q s) (arS t nC F T cm ord h q y) := by
  obtain ⟨H, hN, hT, hLS, hQ, hB, hM, h29, h96⟩ := HA
  have hN' : NYq nG cm rk h (q + 1) s := fun b hb hz => hN b hb (by omega)
  unfold arD arS
  by_cases hc : cm (ord q) = h ∧ h < T (ord q)
  · rw [if_pos hc, if_pos hc]
    obtain ⟨n5, n6, n7⟩ := hN (ord q) hor (Or.inr ⟨hc.1, by omega⟩)
    have hne : ∀ b, b < nG → (h < cm b ∨ (cm b = h ∧ q + 1 ≤ rk b)) → b ≠ ord q := fun b hb hz e => by subst e; omega
    cases hb : bsD (fun c => wM m F T (ord q) h c) (fun c => (s.2.1 204 c).isNone) nC with
    | none =>
      rw [if_pos ((fz_eq hL H).mpr hb)]
      dsimp only
      refine ⟨hr_e (Nat.le_succ e) (hr_wt hor n5 n6 (Nat.le_refl h) hc.2 H), fun b hb2 hz => ?_, fun b hb2 hz => ?_, ?_, hQ, hB, hM, h29, fun b hb2 => ?_⟩
      · have hbo := hne b hb2 hz
        have z := hN' b hb2 hz
        refine ⟨z.1, ?_, ?_⟩
        · show up2 s.2.1 196 (ord q) (some h) 196 b = none
          rw [up2_n hbo]; exact z.2.1
        · show ud s.2.2 (ord q) false b = false
          rw [ud_n hbo]; exact z.2.2
      · have hbo : b ≠ ord q := fun e => by subst e; omega
        have z := hT b hb2 hz
        refine ⟨z.1, ?_⟩
        show up2 s.2.1 196 (ord q) (some h) 196 b = none
        rw [up2_n hbo]; exact z.2
      · have eg : ud s.2.2 (ord q) false = s.2.2 := by
          funext i; unfold ud; split
          · rename_i e; rw [e, n7]
          · rfl
        show LSR t nG cm (s.1, up2 s.2.1 196 (ord q) (some h), ud s.2.2 (ord q) false) (sO 5 (ord q) (some h) y)
        rw [eg]; exact hLS
      · show up2 s.2.1 196 (ord q) (some h) 196 b = _ ∨ _ ∧ up2 s.2.1 196 (ord q) (some h) 196 b = _
        by_cases hbo : b = ord q
        · subst hbo
          rw [up2_s]
          rcases h96 _ hb2 with z | z
          · exact Or.inr ⟨by rw [← z]; exact n6, rfl⟩
          · exact absurd (n6.symm.trans z.2) (by simp)
        · rw [up2_n hbo]; exact h96 b hb2
    | some c =>
      have hcl := bsD_lt hb
      have hown : s.2.1 204 c = none := Option.isNone_iff_eq_none.mp hcl.2
      rw [if_neg (fun z => by have z2 := (fz_eq (W := fun c => wM m F T (ord q) h c) hL H).mp z; rw [hb] at z2; cases z2)]
      have eb : btC t nC F T (ord q) h y = tbC t (ord q) h c y := by
        unfold btC; rw [best_eq hL H, hb]
      rw [eb]
      dsimp only
      have a1 := hr_sit hL he hor hcl.1 n5 n6 hown hc.2 H
      refine ⟨hr_y (y := tbC t (ord q) h c y) (up2_row (by omega)) (up2_row (by omega)) rfl rfl rfl rfl rfl (FrC_m a1.2.2 (Or.inr (Or.inr ⟨rfl, rfl⟩))) a1, fun b hb2 hz => ?_, fun b hb2 hz => ?_, ?_, ?_, ?_, ?_, F29_t h29 sit_29, fun b hb2 => ?_⟩
      · have hbo := hne b hb2 hz
        have z := hN' b hb2 hz
        refine ⟨?_, ?_, ?_⟩
        · show (sitD (ord q) h c s).2.1 195 b = none
          rw [sit_o (Or.inl rfl) hbo]; exact z.1
        · show (sitD (ord q) h c s).2.1 196 b = none
          rw [sit_o (Or.inr rfl) hbo]; exact z.2.1
        · show ud s.2.2 (ord q) true b = false
          rw [ud_n hbo]; exact z.2.2
      · have hbo : b ≠ ord q := fun e => by subst e; omega
        have z := hT b hb2 hz
        refine ⟨?_, ?_⟩
        · show (sitD (ord q) h c s).2.1 195 b = none
          rw [sit_o (Or.inl rfl) hbo]; exact z.1
        · show (sitD (ord q) h c s).2.1 196 b = none
          rw [sit_o (Or.inr rfl) hbo]; exact z.2
      · refine Or.inr ⟨ord q, hor, ?_, ?_, fun a ha hz => ?_⟩
        · show ud s.2.2 (ord q) true (ord q) = true
          rw [ud_s]
        · show up2 (tbC t (ord q) h c y).1 t 14 (nI h) t 14 = _
          rw [up2_s, hc.1]
        · have hz2 : ud s.2.2 (ord q) true a = true := hz
          rw [hc.1]
          apply Decidable.byContradiction
          intro hlt
          by_cases hao : a = ord q
          · subst hao; omega
          · rw [ud_n hao, (hN a ha (Or.inl (by omega))).2.2] at hz2
            cases hz2
      · show (tbC t (ord q) h c y).2.2.2.2.2.1 = _
        rw [← eb, btC_q.1]; exact hQ
      · show (tbC t (ord q) h c y).2.2.2.2.2.2.2 = _
        rw [← eb, bt_bz]; exact hB
      · intro b hb2
        show (tbC t (ord q) h c y).2.1 b 0 = _
        rw [← eb, btC_fa (by omega)]; exact hM b hb2
      · show (sitD (ord q) h c s).2.1 196 b = _ ∨ _ ∧ (sitD (ord q) h c s).2.1 196 b = _
        by_cases hbo : b = ord q
        · subst hbo
          have e6 : (sitD (ord q) h c s).2.1 196 (ord q) = none := by
            unfold sitD; dsimp only; rw [up2_row (by omega), up2_s]
          rw [e6]
          rcases h96 _ hb2 with z | z
          · exact Or.inl (by rw [← z]; exact n6.symm)
          · exact absurd (n6.symm.trans z.2) (by simp)
        · rw [sit_o (Or.inr rfl) hbo]; exact h96 b hb2
  · rw [if_neg hc, if_neg hc]
    exact ⟨hr_e (Nat.le_succ e) H, hN', hT, hLS, hQ, hB, hM, h29, h96⟩
theorem ar_loop {s0 : DS} {y0 : CS} (hL : PL2 t nC nG m n F T h) (he : e + 8 < 1000) (hor : ∀ q, q < nG → ord q < nG ∧ rk (ord q) = q) (hinj : ∀ b, b < nG → ord (rk b) = b) (HA : ARI t nC nG m n F T cm rk h e 0 s0 y0 s y) :
    ∀ k, k ≤ nG → ARI t nC nG m n F T cm rk h (e + k) k s0 y0 (lpS (arD (fun g c => wM m F T g h c) cm T ord nC h) 0 k s) (lpS (arS t nC F T cm ord h) 0 k y)
  | 0, _ => HA
  | k + 1, hk => by
    rw [lpS_snoc, lpS_snoc, Nat.zero_add]
    exact ar_step hL (by have := hL.2.2.2.2.1; show e + k < 1000; omega) (by omega) (hor k (by omega)).1 (hor k (by omega)).2 (fun b hb hr => by rw [← hr, hinj b hb]) (ar_loop hL he hor hinj HA k (by omega))
end REL4

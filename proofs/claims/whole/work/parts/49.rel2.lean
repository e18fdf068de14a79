section REL2
variable {t nC nG : Nat} {m n : pMI} {F T : Nat → Nat} {h e : Nat} {s : DS} {y : CS}
theorem rel_y {z : CS} (h1 : z.1 (t + 4) = y.1 (t + 4)) (h2 : z.2.2.2.1 = y.2.2.2.1) (h3 : z.2.1 = y.2.1) (h4 : z.2.2.1 = y.2.2.1) (h5 : z.2.2.2.2.2.2.1 = y.2.2.2.2.2.2.1) (H : CORE t nC nG m F T h e s y) : CORE t nC nG m F T h e s z := by
  unfold CORE GRs CRs
  rw [h1, h2, h3, h4, h5]
  exact H
theorem rel_e {e' : Nat} (he : e ≤ e') (H : CORE t nC nG m F T h e s y) : CORE t nC nG m F T h e' s y := by
  refine ⟨fun b hb => ?_, H.2⟩
  obtain ⟨z1, z2, z3, z4, z5, ⟨k, z6, z7, z8⟩, z9⟩ := H.1 b hb
  exact ⟨z1, z2, z3, z4, z5, ⟨k, z6, by omega, z8⟩, z9⟩
/-- one begins to wait, not ahead of h -/
theorem rel_wt {b v : Nat} (hb : b < nG) (h5 : s.2.1 195 b = none) (h6 : s.2.1 196 b = none) (hv : h ≤ v) (hvT : v < T b) (H : CORE t nC nG m F T h e s y) : CORE t nC nG m F T h e (wfD b (some v) s) (sO 5 b (some v) y) := by
  obtain ⟨hG, hCC, hSO, hfr⟩ := H
  refine ⟨fun a ha => ?_, fun d hd => ?_, ⟨fun a d ha hd => ?_, fun d a hd => ?_⟩, fun d => ?_⟩
  · unfold GRs wfD
    dsimp only
    show GR m (F a) (T a) h e _ _ _ _ _ _ _ _ (up2 y.2.2.2.1 5 b (some v) 3 a) (up2 y.2.2.2.1 5 b (some v) 5 a) (y.2.1 a) (y.1 (t + 4) a)
    by_cases hab : a = b
    · subst hab
      have hGb := hG a ha
      unfold GRs GR at hGb
      rw [h5, h6] at hGb
      obtain ⟨g1, g2, g3, g4, g5, g6, g7, g8⟩ := hGb
      rw [up2_row (show (195 : Nat) ≠ 196 by omega), up2_s, up2_row (show (198 : Nat) ≠ 196 by omega), up2_row (show (3 : Nat) ≠ 5 by omega), up2_s, h5]
      exact ⟨g1, rfl, g3, g4, g5, g6, g7, hvT, by rw [show h - v = 0 by omega, i_add0]; exact g8⟩
    · rw [up2_row (show (195 : Nat) ≠ 196 by omega), up2_n hab, up2_row (show (198 : Nat) ≠ 196 by omega), up2_row (show (3 : Nat) ≠ 5 by omega), up2_n hab]
      exact hG a ha
  · exact hCC d hd
  · exact hSO.1 a d ha hd
  · exact hSO.2 d a hd
  · exact hfr d
/-- one more taking off is counted -/
theorem rel_o6 {b : Nat} (hb : b < nG) (H : CORE t nC nG m F T h e s y) : CORE t nC nG m F T h e (up2 s.1 202 b (s.1 202 b + nI 1), s.2) (sFa b 6 (y.2.1 b 6 + nI 1) y) := by
  obtain ⟨hG, hCC, hSO, hfr⟩ := H
  refine ⟨fun a ha => ?_, fun d hd => ?_, hSO, hfr⟩
  · have hGb := hG a ha
    unfold GRs GR at hGb
    obtain ⟨g1, g2, g3, g4, g5, g6, g7, g8⟩ := hGb
    unfold GRs GR
    dsimp only
    show _ ∧ _ ∧ up2 y.2.1 b 6 (y.2.1 b 6 + nI 1) a 1 = _ ∧ _ = up2 y.2.1 b 6 (y.2.1 b 6 + nI 1) a 5 ∧ _ = up2 y.2.1 b 6 (y.2.1 b 6 + nI 1) a 6 ∧ (∃ n, up2 y.2.1 b 6 (y.2.1 b 6 + nI 1) a 5 = nI n ∧ _) ∧ _
    rw [up2_row (show (199 : Nat) ≠ 202 by omega), up2_row (show (200 : Nat) ≠ 202 by omega), up2_row (show (201 : Nat) ≠ 202 by omega), up2_row (show (203 : Nat) ≠ 202 by omega)]
    have e0 : ∀ j, j ≠ 6 → up2 y.2.1 b 6 (y.2.1 b 6 + nI 1) a j = y.2.1 a j := fun j hj => up2_nn (by omega)
    refine ⟨g1, g2, (e0 1 (by omega)).trans g3, g4.trans (e0 5 (by omega)).symm, ?_, ?_, ?_, ?_⟩
    · by_cases hab : a = b
      · subst hab; rw [up2_s, up2_s, g5]
      · rw [up2_n hab, up2_nn (by omega)]; exact g5
    · rw [e0 5 (by omega)]; exact g6
    · show (match s.2.1 195 a with | none => _ = up2 y.2.1 b 6 (y.2.1 b 6 + nI 1) a 2 ∧ _ = up2 y.2.1 b 6 (y.2.1 b 6 + nI 1) a 3 | some c => _ ∧ _ ∧ ∃ k, _ ∧ _ ∧ _ = up2 y.2.1 b 6 (y.2.1 b 6 + nI 1) a 2 + _ ∧ _ = up2 y.2.1 b 6 (y.2.1 b 6 + nI 1) a 3 + _)
      rw [e0 2 (by omega), e0 3 (by omega)]; exact g7
    · show (match s.2.1 196 a with | none => _ = up2 y.2.1 b 6 (y.2.1 b 6 + nI 1) a 7 | some v => _ ∧ _ = up2 y.2.1 b 6 (y.2.1 b 6 + nI 1) a 7 + _)
      rw [e0 7 (by omega)]; exact g8
  · have z := hCC d hd
    unfold CRs at z ⊢
    dsimp only
    rw [up2_row (show (205 : Nat) ≠ 202 by omega), up2_row (show (206 : Nat) ≠ 202 by omega), up2_row (show (207 : Nat) ≠ 202 by omega), up2_row (show (208 : Nat) ≠ 202 by omega)]
    exact z
/-- a towel is taken off -/
def offD (F : Nat → Nat) (h b : Nat) (s : DS) : DS := wfD b (some (max (F b) h)) (up2 s.1 202 b (s.1 202 b + nI 1), (frD b s).2)
def ofC (t : Nat) (F : Nat → Nat) (h b c : Nat) (y : CS) : CS := sBz (ud y.2.2.2.2.2.2.2 (F b) true) (sO 5 b (some (F b)) (guC t F b h c (uN (y.1 (t + 4) b)) (sFa b 6 (y.2.1 b 6 + nI 1) y)))
theorem rel_off {b c : Nat} (hF : FrC t n y) (hn : ∀ c, c < nC → n 4 c = m (102 + c) 0 ∧ n 5 c = m (102 + c) 1) (ht : 32 ≤ t) (hh : h < 100) (hb : b < nG) (hc : s.2.1 195 b = some c) (hhF : h ≤ F b) (hFT : F b < T b) (H : CORE t nC nG m F T h e s y) :
    CORE t nC nG m F T h e (offD F h b s) (ofC t F h b c y) := by
  have h6 : s.2.1 196 b = none := by
    have z := (H.1 b hb)
    unfold GRs GR at z
    rw [hc] at z
    exact z.2.2.2.2.2.2.1.1
  have a1 := rel_o6 hb H
  have a2 := rel_gu (b := b) (c := c) (n := n) (s := (up2 s.1 202 b (s.1 202 b + nI 1), s.2)) (y := sFa b 6 (y.2.1 b 6 + nI 1) y) hF hn ht hh hb hc a1
  have a3 := rel_wt (v := F b) hb (by dsimp only; exact up2_s) (by dsimp only; rw [up2_row (by omega), up2_row (by omega)]; exact h6) hhF hFT a2
  unfold offD frD
  rw [hc, show max (F b) h = F b by omega]
  exact rel_y rfl rfl rfl rfl rfl a3
/-- many towels taken off at once -/
def batD (F : Nat → Nat) (h : Nat) (P : Nat → Bool) (s : DS) : DS :=
  ((fun i j => if i = 202 ∧ P j = true then s.1 202 j + nI 1 else s.1 i j),
   (fun i j => if i = 195 ∧ P j = true then none else if i = 196 ∧ P j = true then some (max (F j) h) else if i = 204 then (match s.2.1 204 j with
      | some b => if P b = true then none else some b
      | none => none) else s.2.1 i j), s.2.2)
theorem bat_1 {P : Nat → Bool} {i j : Nat} (hi : i ≠ 202) : (batD F h P s).1 i j = s.1 i j := by
  unfold batD; dsimp only; rw [if_neg (fun z => hi z.1)]
theorem bat_204 {P : Nat → Bool} {j : Nat} : (batD F h P s).2.1 204 j = (match s.2.1 204 j with
      | some b => if P b = true then none else some b
      | none => none) := by
  unfold batD; dsimp only; rw [if_neg (fun z => absurd z.1 (by omega)), if_neg (fun z => absurd z.1 (by omega)), if_pos rfl]
theorem bat_195 {P : Nat → Bool} {j : Nat} (hP : P j = false) : (batD F h P s).2.1 195 j = s.2.1 195 j := by
  unfold batD; dsimp only; rw [if_neg (fun z => by rw [hP] at z; cases z.2), if_neg (fun z => absurd z.1 (by omega)), if_neg (by omega)]
theorem bat_196 {P : Nat → Bool} {j : Nat} : (batD F h P s).2.1 196 j = if P j = true then some (max (F j) h) else s.2.1 196 j := by
  unfold batD; dsimp only; rw [if_neg (fun z => absurd z.1 (by omega))]
  by_cases hP : P j = true
  · rw [if_pos ⟨rfl, hP⟩, if_pos hP]
  · rw [if_neg (fun z => hP z.2), if_neg hP, if_neg (by omega)]
theorem bat_0 : batD F h (fun _ => false) s = s := by
  unfold batD
  refine Prod.ext ?_ (Prod.ext ?_ rfl)
  · funext i j; simp
  · funext i j
    simp only [Bool.false_eq_true, and_false, if_false]
    split
    · rename_i e; subst e; split <;> simp_all
    · rfl
theorem bat_add {P : Nat → Bool} {b c : Nat} (hP : P b = false) (hc : s.2.1 195 b = some c) (ho : s.2.1 204 c = some b) (hu : ∀ d, s.2.1 204 d = some b → d = c) : offD F h b (batD F h P s) = batD F h (ud P b true) s := by
  have hcb : (batD F h P s).2.1 195 b = some c := by unfold batD; dsimp only; rw [if_neg (by rw [hP]; simp), if_neg (by omega), if_neg (by omega)]; exact hc
  unfold offD frD
  rw [hcb]
  unfold wfD batD
  dsimp only
  refine Prod.ext ?_ (Prod.ext ?_ rfl)
  · funext i j
    dsimp only
    unfold up2 ud
    by_cases h1 : i = 202
    · by_cases h2 : j = b
      · subst h1 h2; simp [hP]
      · simp [h1, h2]
    · simp [h1]
  · funext i j
    dsimp only
    unfold up2 ud
    by_cases h1 : i = 195
    · subst h1
      by_cases h2 : j = b
      · simp [h2]
      · simp [h2]
    by_cases h2 : i = 196
    · subst h2
      by_cases h3 : j = b
      · simp [h3]
      · simp [h3]
    by_cases h3 : i = 204
    · subst h3
      by_cases h4 : j = c
      · subst h4; simp [ho]
      · simp only [h4, and_false, if_false, h1, h2, false_and, if_true, Nat.reduceEqDiff]
        cases hq : s.2.1 204 j with
        | none => rfl
        | some a =>
          have hab : a ≠ b := fun z => h4 (hu j (by rw [hq, z]))
          simp [hab]
    · simp [h1, h2, h3]
def offP (nG h : Nat) (ob : Int32) (s : DS) (k b : Nat) : Bool := decide (b < nG) && (match s.2.1 195 b with
  | none => false
  | some c => decide (c < k) && decide (¬ (nI h - s.1 205 c < ob)))
theorem hot_bat {ob : Int32} (hS : SO nC nG s.2.1) : ∀ k, k ≤ nC → lpS (htD F h ob) 0 k s = batD F h (offP nG h ob s k) s
  | 0, _ => by
    have : offP nG h ob s 0 = fun _ => false := by
      funext b; unfold offP; cases s.2.1 195 b <;> simp
    rw [this, bat_0]; rfl
  | k + 1, hk => by
    rw [lpS_snoc, hot_bat hS k (by omega), Nat.zero_add]
    unfold htD
    have e4 : (batD F h (offP nG h ob s k) s).2.1 204 k = s.2.1 204 k := by
      rw [bat_204]
      cases hq : s.2.1 204 k with
      | none => rfl
      | some b =>
        have := (hS.2 k b hq).2
        dsimp only
        rw [if_neg]
        unfold offP
        rw [this]
        simp
    rw [e4]
    cases hq : s.2.1 204 k with
    | none =>
      dsimp only
      congr 1
      funext b
      unfold offP
      by_cases hb : b < nG
      · cases h5 : s.2.1 195 b with
        | none => rfl
        | some c =>
          have : c ≠ k := fun z => by have := (hS.1 b c hb h5).2; rw [z, hq] at this; cases this
          dsimp only
          rw [show decide (c < k + 1) = decide (c < k) by simp; omega]
      · simp [hb]
    | some b =>
      have hb := hS.2 k b hq
      dsimp only
      have e5 : (batD F h (offP nG h ob s k) s).1 205 k = s.1 205 k := bat_1 (by omega)
      rw [e5]
      have hx : ∀ a, a ≠ b → offP nG h ob s (k + 1) a = offP nG h ob s k a := fun a hab => by
        unfold offP
        by_cases ha : a < nG
        · cases h5 : s.2.1 195 a with
          | none => rfl
          | some c =>
            have : c ≠ k := fun z => by have := (hS.1 a c ha h5).2; rw [z, hq] at this; exact hab (Option.some.inj this).symm
            dsimp only
            rw [show decide (c < k + 1) = decide (c < k) by simp; omega]
        · simp [ha]
      have hb0 : offP nG h ob s k b = false := by unfold offP; rw [hb.2]; simp
      by_cases hcd : nI h - s.1 205 k < ob
      · rw [if_pos hcd]
        congr 1
        funext a
        by_cases hab : a = b
        · subst hab; rw [hb0]; unfold offP; rw [hb.2]; simp [hcd]
        · exact (hx a hab).symm
      · rw [if_neg hcd]
        have z := bat_add (F := F) (h := h) (P := offP nG h ob s k) hb0 hb.2 hq (fun d hd => by have := (hS.2 d b hd).2; rw [hb.2] at this; exact (Option.some.inj this).symm)
        unfold offD at z
        refine z.trans ?_
        congr 1
        funext a
        unfold ud
        by_cases hab : a = b
        · subst hab; rw [if_pos rfl]; unfold offP; rw [hb.2]; simp [hcd, hb.1]
        · rw [if_neg hab]; exact (hx a hab).symm
end REL2

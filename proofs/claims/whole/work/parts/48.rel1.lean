/-! ===== the two ways through a day are one ===== -/
def GR (m : pMI) (Fb Tb h e : Nat) (o195 o196 o198 : Option Nat) (r199 r200 r201 r202 r203 : Int32) (o3 o5 : Option Nat) (fa : Nat → Int32) (tk : Int32) : Prop :=
  o3 = o195 ∧ o5 = o196 ∧ fa 1 = oI o198 ∧ r201 = fa 5 ∧ r202 = fa 6 ∧ (∃ n, fa 5 = nI n ∧ n ≤ e ∧ (n = 0 ↔ o198 = none)) ∧
  (match o195 with
    | none => r199 = fa 2 ∧ r200 = fa 3
    | some c => o196 = none ∧ h ≤ Tb ∧ ∃ k, tk = nI k ∧ k ≤ h ∧ r199 = fa 2 + nI (h - max k Fb) ∧ r200 = fa 3 + sW (m (102 + c) 0) (m (102 + c) 1) (max k Fb) h) ∧
  (match o196 with
    | none => r203 = fa 7
    | some v => v < Tb ∧ r203 = fa 7 + nI (h - v))
def CR (F : Nat → Nat) (h : Nat) (own : Option Nat) (r205 r206 r207 r208 : Int32) (cf : Nat → Int32) (tk : Nat → Int32) : Prop :=
  r208 = cf 2 ∧ (match own with
    | none => r206 = cf 0 ∧ r207 = cf 1
    | some b => ∃ k, tk b = nI k ∧ k ≤ h ∧ r205 = nI (if h ≤ F b then k else h) ∧ r206 = cf 0 + nI (h - max k (F b)) ∧ r207 = cf 1 + nI (h - k - (h - max k (F b))))
def SO (nC nG : Nat) (o : Nat → Nat → Option Nat) : Prop := (∀ b c, b < nG → o 195 b = some c → c < nC ∧ o 204 c = some b) ∧ (∀ c b, o 204 c = some b → b < nG ∧ o 195 b = some c)
def GRs (t : Nat) (m : pMI) (F T : Nat → Nat) (h e : Nat) (s : DS) (y : CS) (b : Nat) : Prop := GR m (F b) (T b) h e (s.2.1 195 b) (s.2.1 196 b) (s.2.1 198 b) (s.1 199 b) (s.1 200 b) (s.1 201 b) (s.1 202 b) (s.1 203 b) (y.2.2.2.1 3 b) (y.2.2.2.1 5 b) (y.2.1 b) (y.1 (t + 4) b)
def CRs (t : Nat) (F : Nat → Nat) (h : Nat) (s : DS) (y : CS) (c : Nat) : Prop := CR F h (s.2.1 204 c) (s.1 205 c) (s.1 206 c) (s.1 207 c) (s.1 208 c) (y.2.2.1 c) (y.1 (t + 4))
def CORE (t nC nG : Nat) (m : pMI) (F T : Nat → Nat) (h e : Nat) (s : DS) (y : CS) : Prop :=
  (∀ b, b < nG → GRs t m F T h e s y b) ∧ (∀ c, c < nC → CRs t F h s y c) ∧ SO nC nG s.2.1 ∧ (∀ c, y.2.2.2.2.2.2.1 c = (decide (c < nC) && (s.2.1 204 c).isNone))
/-- towels as they are painted -/
def PT (t nC h : Nat) (F : Nat → Nat) (s : DS) (y : CS) : Prop := ∀ c, c < nC → ∀ j, j < h → s.1 (211 + c) j = (match s.2.1 204 c with
    | none => y.2.2.2.2.1 c j
    | some b => if uN (y.1 (t + 4) b) ≤ j then nI b else y.2.2.2.2.1 c j)
theorem nI_inj {a b : Nat} (ha : a < 1000) (hb : b < 1000) (h : nI a = nI b) : a = b := (nI_eq (by omega) (by omega)).mp h
theorem addI {x : Int32} {a b : Nat} : x + nI a + nI b = x + nI (a + b) := by rw [Int32.add_assoc, nI_add]
theorem sW_add (a b : Int32) {p q r : Nat} (h1 : p ≤ q) (h2 : q ≤ r) : sW a b p q + sW a b q r = sW a b p r := by
  unfold sW
  have e1 : nI (min r 12 - p) = nI (min q 12 - p) + nI (min r 12 - q) := by rw [nI_add]; congr 1; omega
  have e2 : nI (r - max p 12) = nI (q - max p 12) + nI (r - max q 12) := by rw [nI_add]; congr 1; omega
  rw [e1, e2, Int32.mul_add, Int32.mul_add]
  ac_rfl
section REL
variable {t nC nG : Nat} {m n : pMI} {F T : Nat → Nat} {h e : Nat} {s : DS} {y : CS}
/-- one gives his chair up -/
theorem rel_gu {b c : Nat} (hF : FrC t n y) (hn : ∀ c, c < nC → n 4 c = m (102 + c) 0 ∧ n 5 c = m (102 + c) 1) (ht : 32 ≤ t) (hh : h < 100) (hb : b < nG) (hc : s.2.1 195 b = some c) (H : CORE t nC nG m F T h e s y) :
    CORE t nC nG m F T h e (s.1, up2 (up2 s.2.1 204 c none) 195 b none, s.2.2) (guC t F b h c (uN (y.1 (t + 4) b)) y) := by
  obtain ⟨hG, hCC, hSO, hfr⟩ := H
  obtain ⟨hcn, hown⟩ := hSO.1 b c hb hc
  have hGb := hG b hb
  unfold GRs GR at hGb
  rw [hc] at hGb
  obtain ⟨g1, g2, g3, g4, g5, g6, ⟨g7, g7', k, g8, g9, g10, g11⟩, g12⟩ := hGb
  have hCb := hCC c hcn
  unfold CRs CR at hCb
  rw [hown] at hCb
  obtain ⟨c1, k', c2, c3, c4, c5, c6⟩ := hCb
  have ek : k' = k := nI_inj (by omega) (by omega) (c2.symm.trans g8)
  subst ek
  have eu : uN (y.1 (t + 4) b) = k' := by rw [g8]; exact uN_nI (by omega)
  rw [eu]
  obtain ⟨q1, q2, q3, q4, q5, q6, q7⟩ := guC_q (t := t) (F := F) (b := b) (h := h) (c := c) (k := k') (x := y)
  have w4 : y.1 4 c = m (102 + c) 0 := (hF 4 c (by omega)).trans (hn c hcn).1
  have w5 : y.1 5 c = m (102 + c) 1 := (hF 5 c (by omega)).trans (hn c hcn).2
  refine ⟨fun a ha => ?_, fun d hd => ?_, ⟨fun a d ha hd => ?_, fun d a hd => ?_⟩, fun d => ?_⟩
  · unfold GRs
    rw [q1, q2, q6]
    dsimp only
    by_cases hab : a = b
    · subst hab
      rw [up2_s, up2_row (by omega), up2_row (by omega), up2_row (by omega), up2_row (by omega), up2_s, up2_row (by omega)]
      unfold GR
      rw [g7] at g12 ⊢
      refine ⟨rfl, g2.trans g7, ?_, ?_, ?_, ?_, ⟨?_, ?_⟩, ?_⟩
      · rw [up2_n (by omega), up2_n (by omega)]; exact g3
      · rw [up2_n (by omega), up2_n (by omega)]; exact g4
      · rw [up2_n (by omega), up2_n (by omega)]; exact g5
      · rw [up2_n (by omega), up2_n (by omega)]; exact g6
      · rw [up2_n (by omega), up2_s]; exact g10
      · rw [up2_s, w4, w5]; exact g11
      · rw [up2_n (by omega), up2_n (by omega)]; exact g12
    · have z := hG a ha
      unfold GRs at z
      rw [up2_n hab, up2_row (by omega), up2_row (by omega), up2_row (by omega), up2_row (by omega), up2_row (by omega), up2_n hab, up2_row (by omega), up2_row hab, up2_row hab]
      exact z
  · unfold CRs
    rw [q1, q7]
    dsimp only
    rw [up2_row (show (204 : Nat) ≠ 195 by omega)]
    by_cases hdc : d = c
    · subst hdc
      rw [up2_s]
      unfold CR
      refine ⟨?_, ?_, ?_⟩
      · rw [up2_n (by omega), up2_n (by omega)]; exact c1
      · rw [up2_n (by omega), up2_s]; exact c5
      · rw [up2_s]; exact c6
    · rw [up2_n hdc, up2_row hdc, up2_row hdc]
      exact hCC d hd
  · dsimp only at hd ⊢
    by_cases hab : a = b
    · subst hab; rw [up2_s] at hd; cases hd
    · rw [up2_n hab, up2_row (by omega)] at hd
      obtain ⟨z1, z2⟩ := hSO.1 a d ha hd
      refine ⟨z1, ?_⟩
      rw [up2_row (by omega), up2_n]
      · exact z2
      · intro z; rw [z, hown] at z2; exact hab (Option.some.inj z2).symm
  · dsimp only at hd ⊢
    rw [up2_row (by omega)] at hd
    by_cases hdc : d = c
    · subst hdc; rw [up2_s] at hd; cases hd
    · rw [up2_n hdc] at hd
      obtain ⟨z1, z2⟩ := hSO.2 d a hd
      refine ⟨z1, ?_⟩
      rw [up2_n, up2_row (by omega)]
      · exact z2
      · intro z; rw [z, hc] at z2; exact hdc (Option.some.inj z2).symm
  · dsimp only
    rw [q4, up2_row (by omega)]
    by_cases hdc : d = c
    · subst hdc; rw [up2_s, ud_s]; simp [hcn]
    · rw [up2_n hdc, ud_n hdc]; exact hfr d
/-- one ends his waiting -/
theorem rel_ew {b v : Nat} (hb : b < nG) (hv : s.2.1 196 b = some v) (hvh : v ≤ h) (H : CORE t nC nG m F T h e s y) :
    CORE t nC nG m F T h e (wfD b none s) (ewC t b h v (uqC t nG b y)) := by
  obtain ⟨hG, hCC, hSO, hfr⟩ := H
  have hGb := hG b hb
  unfold GRs GR at hGb
  rw [hv] at hGb
  obtain ⟨g1, g2, g3, g4, g5, g6, g7, g8, g9⟩ := hGb
  obtain ⟨q1, q2, q3, q4, q5, q6⟩ := ewC_q (t := t) (b := b) (h := h) (v := v) (x := uqC t nG b y)
  have e4 : (ewC t b h v (uqC t nG b y)).1 (t + 4) = y.1 (t + 4) := by
    rw [q1 (t + 4) (by omega)]; funext j
    show (if t + 4 = t + 7 then _ else y.1 (t + 4) j) = _
    rw [if_neg (by omega)]
  refine ⟨fun a ha => ?_, fun d hd => ?_, ⟨fun a d ha hd => ?_, fun d a hd => ?_⟩, fun d => ?_⟩
  · unfold GRs
    rw [e4, q2, q4]
    unfold wfD
    dsimp only
    show GR m (F a) (T a) h e _ _ _ _ _ _ _ _ (up2 y.2.2.2.1 5 b none 3 a) (up2 y.2.2.2.1 5 b none 5 a) (up2 y.2.1 b 7 (y.2.1 b 7 + nI (h - v)) a) _
    by_cases hab : a = b
    · subst hab
      rw [up2_row (show (195 : Nat) ≠ 196 by omega), up2_s, up2_row (show (198 : Nat) ≠ 196 by omega), up2_row (show (3 : Nat) ≠ 5 by omega), up2_s]
      unfold GR
      refine ⟨g1, rfl, ?_, ?_, ?_, ?_, ?_, ?_⟩
      · rw [up2_n (by omega)]; exact g3
      · rw [up2_n (by omega)]; exact g4
      · rw [up2_n (by omega)]; exact g5
      · rw [up2_n (by omega)]; exact g6
      · cases h5 : s.2.1 195 a with
        | none => rw [h5] at g7; rw [up2_n (by omega), up2_n (by omega)]; exact g7
        | some q => rw [h5] at g7; exact absurd g7.1 (by simp)
      · rw [up2_s]; exact g9
    · rw [up2_row (show (195 : Nat) ≠ 196 by omega), up2_n hab, up2_row (show (198 : Nat) ≠ 196 by omega), up2_row (show (3 : Nat) ≠ 5 by omega), up2_n hab, up2_row hab]
      exact hG a ha
  · unfold CRs
    rw [e4, q5]
    exact hCC d hd
  · exact hSO.1 a d ha hd
  · exact hSO.2 d a hd
  · rw [q3]; exact hfr d
/-- one sits -/
theorem rel_sit {b c : Nat} (hb : b < nG) (hcn : c < nC) (hs5 : s.2.1 195 b = none) (hown : s.2.1 204 c = none) (hhT : h < T b) (hs8 : s.2.1 196 b = none ∨ ∃ v, s.2.1 196 b = some v) (hs6 : y.2.2.2.1 5 b = none) (hw : s.1 203 b = y.2.1 b 7) (he : e < 1000) (hh : h < 100)
    (h1 : ∀ a, a < nG → a ≠ b → GRs t m F T h e s y a) (hb1 : y.2.2.2.1 3 b = none ∧ y.2.1 b 1 = oI (s.2.1 198 b) ∧ s.1 201 b = y.2.1 b 5 ∧ s.1 202 b = y.2.1 b 6 ∧ (∃ n, y.2.1 b 5 = nI n ∧ n ≤ e ∧ (n = 0 ↔ s.2.1 198 b = none)) ∧ s.1 199 b = y.2.1 b 2 ∧ s.1 200 b = y.2.1 b 3)
    (h2 : ∀ c, c < nC → CRs t F h s y c) (h3 : SO nC nG s.2.1) (h4 : ∀ c, y.2.2.2.2.2.2.1 c = (decide (c < nC) && (s.2.1 204 c).isNone)) :
    CORE t nC nG m F T h (e + 1) (sitD b h c s) (tbC t b h c y) := by
  have hCb := h2 c hcn
  unfold CRs CR at hCb
  rw [hown] at hCb
  obtain ⟨c1, c5, c6⟩ := hCb
  obtain ⟨g1, g2, g3, g4, ⟨n0, g5, g5', g5''⟩, g6, g7⟩ := hb1
  have q1 : (tbC t b h c y).1 = up2 y.1 (t + 4) b (nI h) := tbC_1
  have q2 : (tbC t b h c y).2.2.2.1 = up2 y.2.2.2.1 3 b (some c) := by unfold tbC; split <;> rfl
  have q3 : (tbC t b h c y).2.2.1 = up2 y.2.2.1 c 2 (y.2.2.1 c 2 + nI 1) := by unfold tbC; split <;> rfl
  have q4 : (tbC t b h c y).2.2.2.2.2.2.1 = ud y.2.2.2.2.2.2.1 c false := by unfold tbC; split <;> rfl
  have q5 := tbC_fa (t := t) (b := b) (h := h) (c := c) (x := y)
  have h0 : y.2.1 b 5 = 0 ↔ s.2.1 198 b = none := by rw [g5, nI_z (by omega)]; exact g5''
  refine ⟨fun a ha => ?_, fun d hd => ?_, ⟨fun a d ha hd => ?_, fun d a hd => ?_⟩, fun d => ?_⟩
  · unfold GRs
    rw [q1, q2, q5]
    unfold sitD
    dsimp only
    rw [up2_row (show (195 : Nat) ≠ 198 by omega), up2_row (show (195 : Nat) ≠ 196 by omega), up2_row (show (196 : Nat) ≠ 198 by omega), up2_row (show (5 : Nat) ≠ 3 by omega), up2_row (show (199 : Nat) ≠ 208 by omega), up2_row (show (199 : Nat) ≠ 201 by omega), up2_row (show (199 : Nat) ≠ 205 by omega), up2_row (show (200 : Nat) ≠ 208 by omega), up2_row (show (200 : Nat) ≠ 201 by omega), up2_row (show (200 : Nat) ≠ 205 by omega), up2_row (show (201 : Nat) ≠ 208 by omega), up2_row (show (202 : Nat) ≠ 208 by omega), up2_row (show (202 : Nat) ≠ 201 by omega), up2_row (show (202 : Nat) ≠ 205 by omega), up2_row (show (203 : Nat) ≠ 208 by omega), up2_row (show (203 : Nat) ≠ 201 by omega), up2_row (show (203 : Nat) ≠ 205 by omega)]
    by_cases hab : a = b
    · subst hab
      rw [up2_s, up2_s, up2_s, up2_s, up2_s, up2_s]
      unfold GR
      refine ⟨rfl, hs6, ?_, ?_, ?_, ⟨n0 + 1, ?_, by omega, ?_⟩, ⟨rfl, by omega, h, rfl, Nat.le_refl _, ?_, ?_⟩, ?_⟩
      · rw [up2_n (by omega)]
        by_cases hz : y.2.1 a 5 = 0
        · rw [if_pos hz, up2_s, h0.mp hz]; rfl
        · rw [if_neg hz]
          cases h8 : s.2.1 198 a with
          | none => exact absurd (h0.mpr h8) hz
          | some q => rw [g2, h8]; rfl
      · rw [up2_s, g3]
      · rw [up2_n (by omega)]
        split
        · rw [up2_n (by omega)]; exact g4
        · exact g4
      · rw [up2_s, g5, nI_add]
      · refine ⟨fun z => by omega, fun z => by cases z⟩
      · rw [up2_n (by omega), show h - max h (F a) = 0 by omega, i_add0]
        split
        · rw [up2_n (by omega)]; exact g6
        · exact g6
      · rw [up2_n (by omega), sW_0 _ _ (by omega), i_add0]
        split
        · rw [up2_n (by omega)]; exact g7
        · exact g7
      · show s.1 203 a = _
        rw [up2_n (by omega)]
        split
        · rw [up2_n (by omega)]; exact hw
        · exact hw
    · have z := h1 a ha hab
      unfold GRs GR at z
      rw [up2_n hab, up2_n hab, up2_n hab, up2_row (show (195 : Nat) ≠ 204 by omega), up2_row (show (196 : Nat) ≠ 195 by omega), up2_row (show (196 : Nat) ≠ 204 by omega), up2_row (show (198 : Nat) ≠ 196 by omega), up2_row (show (198 : Nat) ≠ 195 by omega), up2_row (show (198 : Nat) ≠ 204 by omega), up2_n hab, up2_n hab, up2_row (show (201 : Nat) ≠ 205 by omega), up2_row hab, up2_n hab]
      have e9 : (if y.2.1 b 5 = 0 then up2 y.2.1 b 1 (nI c) else y.2.1) a = y.2.1 a := by
        split
        · exact up2_row hab
        · rfl
      rw [e9]
      obtain ⟨z1, z2, z3, z4, z5, ⟨k, z6, z7, z8⟩, z9⟩ := z
      exact ⟨z1, z2, z3, z4, z5, ⟨k, z6, by omega, z8⟩, z9⟩
  · unfold CRs
    rw [q1, q3]
    unfold sitD
    dsimp only
    rw [up2_row (show (204 : Nat) ≠ 198 by omega), up2_row (show (204 : Nat) ≠ 196 by omega), up2_row (show (204 : Nat) ≠ 195 by omega), up2_row (show (205 : Nat) ≠ 208 by omega), up2_row (show (205 : Nat) ≠ 201 by omega), up2_row (show (206 : Nat) ≠ 208 by omega), up2_row (show (206 : Nat) ≠ 201 by omega), up2_row (show (206 : Nat) ≠ 205 by omega), up2_row (show (207 : Nat) ≠ 208 by omega), up2_row (show (207 : Nat) ≠ 201 by omega), up2_row (show (207 : Nat) ≠ 205 by omega)]
    by_cases hdc : d = c
    · subst hdc
      rw [up2_s, up2_s, up2_s]
      unfold CR
      refine ⟨?_, h, up2_s, Nat.le_refl _, ?_, ?_, ?_⟩
      · rw [up2_s, c1]
      · rw [ite_self]
      · rw [up2_n (by omega), show h - max h (F b) = 0 by omega, i_add0]; exact c5
      · rw [up2_n (by omega), show h - h - (h - max h (F b)) = 0 by omega, i_add0]; exact c6
    · have z := h2 d hd
      unfold CRs at z
      rw [up2_n hdc, up2_n hdc, up2_n hdc, up2_row (show (208 : Nat) ≠ 201 by omega), up2_row (show (208 : Nat) ≠ 205 by omega), up2_row hdc]
      unfold CR at z ⊢
      refine ⟨z.1, ?_⟩
      cases ho : s.2.1 204 d with
      | none => rw [ho] at z; exact z.2
      | some a =>
        rw [ho] at z
        dsimp only at z ⊢
        have hab : a ≠ b := fun q => by have := (h3.2 d a ho).2; rw [q, hs5] at this; cases this
        rw [up2_n hab]
        exact z.2
  · unfold sitD at hd ⊢
    dsimp only at hd ⊢
    rw [up2_row (show (195 : Nat) ≠ 198 by omega), up2_row (show (195 : Nat) ≠ 196 by omega)] at hd
    rw [up2_row (show (204 : Nat) ≠ 198 by omega), up2_row (show (204 : Nat) ≠ 196 by omega), up2_row (show (204 : Nat) ≠ 195 by omega)]
    by_cases hab : a = b
    · subst hab
      rw [up2_s] at hd
      cases hd
      exact ⟨hcn, up2_s⟩
    · rw [up2_n hab, up2_row (by omega)] at hd
      obtain ⟨z1, z2⟩ := h3.1 a d ha hd
      refine ⟨z1, ?_⟩
      rw [up2_n]
      · exact z2
      · intro z; rw [z, hown] at z2; cases z2
  · unfold sitD at hd ⊢
    dsimp only at hd ⊢
    rw [up2_row (show (204 : Nat) ≠ 198 by omega), up2_row (show (204 : Nat) ≠ 196 by omega), up2_row (show (204 : Nat) ≠ 195 by omega)] at hd
    rw [up2_row (show (195 : Nat) ≠ 198 by omega), up2_row (show (195 : Nat) ≠ 196 by omega)]
    by_cases hdc : d = c
    · subst hdc
      rw [up2_s] at hd
      cases hd
      exact ⟨hb, up2_s⟩
    · rw [up2_n hdc] at hd
      obtain ⟨z1, z2⟩ := h3.2 d a hd
      refine ⟨z1, ?_⟩
      rw [up2_n, up2_row (by omega)]
      · exact z2
      · intro z; rw [z, hs5] at z2; cases z2
  · rw [q4]
    unfold sitD
    dsimp only
    rw [up2_row (show (204 : Nat) ≠ 198 by omega), up2_row (show (204 : Nat) ≠ 196 by omega), up2_row (show (204 : Nat) ≠ 195 by omega)]
    by_cases hdc : d = c
    · subst hdc; rw [up2_s, ud_s]; simp
    · rw [up2_n hdc, ud_n hdc]; exact h4 d
end REL

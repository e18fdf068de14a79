section REL6
variable {t nC nG : Nat} {m n : pMI} {F T cm rk ord : Nat → Nat} {h e : Nat} {s z : DS} {y : CS}
theorem mk_loop : ∀ k, k ≤ 8 → (lpS (mkD h) 0 k z).2 = z.2 ∧ (∀ g, (lpS (mkD h) 0 k z).1 203 g = if g < k ∧ wtB (z.2.1 196 g) h = true then z.1 203 g + nI 1 else z.1 203 g) ∧ (∀ i, i < 32 → bt ((lpS (mkD h) 0 k z).1 209 h) i = (bt (z.1 209 h) i || (decide (i < k) && wtB (z.2.1 196 i) h))) ∧ (∀ i j, i ≠ 203 → ¬ (i = 209 ∧ j = h) → (lpS (mkD h) 0 k z).1 i j = z.1 i j)
  | 0, _ => ⟨rfl, fun g => by rw [if_neg (by omega)]; rfl, fun i _ => by simp [lpS], fun _ _ _ _ => rfl⟩
  | k + 1, hk => by
    obtain ⟨i1, i2, i3, i4⟩ := mk_loop k (by omega)
    rw [lpS_snoc, Nat.zero_add]
    generalize lpS (mkD h) 0 k z = S at i1 i2 i3 i4 ⊢
    have eo : S.2.1 196 k = z.2.1 196 k := by rw [i1]
    have em : mkD h k S = if wtB (z.2.1 196 k) h = true then (up2 (up2 S.1 209 h (S.1 209 h ||| nI 1 <<< (nI k &&& 31))) 203 k (S.1 203 k + nI 1), S.2) else S := by
      unfold mkD wtB
      rw [eo]
      cases z.2.1 196 k with
      | none => rfl
      | some v => dsimp only; simp only [decide_eq_true_eq]
    rw [em]
    by_cases hw : wtB (z.2.1 196 k) h = true
    · rw [if_pos hw]
      refine ⟨i1, fun g => ?_, fun i hi => ?_, fun i j h1 h2 => ?_⟩
      · dsimp only
        by_cases hg : g = k
        · subst hg
          rw [up2_s, if_pos ⟨by omega, hw⟩, i2, if_neg (by omega)]
        · rw [up2_n hg, up2_row (by omega), i2]
          by_cases h3 : g < k ∧ wtB (z.2.1 196 g) h = true
          · rw [if_pos h3, if_pos ⟨by omega, h3.2⟩]
          · rw [if_neg h3, if_neg (fun q => h3 ⟨by omega, q.2⟩)]
      · dsimp only
        rw [up2_row (by omega), up2_s, bit_set (by omega) hi, i3 i hi]
        by_cases hik : i = k
        · subst hik; simp [hw]
        · rw [show decide (i < k + 1) = decide (i < k) by simp; omega, decide_eq_false hik]; simp
      · dsimp only
        rw [up2_row h1, up2_nn h2]; exact i4 i j h1 h2
    · rw [if_neg hw]
      have hw2 : wtB (z.2.1 196 k) h = false := by simpa using hw
      refine ⟨i1, fun g => ?_, fun i hi => ?_, i4⟩
      · rw [i2]
        by_cases hg : g = k
        · subst hg; rw [if_neg (by omega), if_neg (fun q => hw q.2)]
        · by_cases h3 : g < k ∧ wtB (z.2.1 196 g) h = true
          · rw [if_pos h3, if_pos ⟨by omega, h3.2⟩]
          · rw [if_neg h3, if_neg (fun q => h3 ⟨by omega, q.2⟩)]
      · rw [i3 i hi]
        by_cases hik : i = k
        · subst hik; simp [hw2]
        · rw [show decide (i < k + 1) = decide (i < k) by simp; omega]
def lieO (F : Nat → Nat) (h : Nat) (o : Option Nat) : Int32 := match o with
  | none => -1
  | some g => if h < F g then -1 else nI g
theorem ly_n {k : Nat} (ho : s.2.1 204 k = none) (i j : Nat) : (lyD m F h k s).1 i j = if i = 220 + k ∧ j = h then -1 else if i = 211 + k ∧ j = h then -1 else s.1 i j := by
  unfold lyD; rw [ho]; rfl
theorem ly_i {k g : Nat} (ho : s.2.1 204 k = some g) (hF : h < F g) (i j : Nat) : (lyD m F h k s).1 i j = if i = 207 ∧ j = k then s.1 207 k + nI 1 else if i = 220 + k ∧ j = h then -1 else if i = 211 + k ∧ j = h then nI g else s.1 i j := by
  unfold lyD; rw [ho]; dsimp only; rw [if_pos hF]; rfl
theorem ly_l {k g : Nat} (ho : s.2.1 204 k = some g) (hF : ¬ h < F g) (i j : Nat) : (lyD m F h k s).1 i j = if i = 200 ∧ j = g then s.1 200 g + m (102 + k) (if h < 12 then 0 else 1) else if i = 199 ∧ j = g then s.1 199 g + nI 1 else if i = 206 ∧ j = k then s.1 206 k + nI 1 else if i = 205 ∧ j = k then nI (h + 1) else if i = 220 + k ∧ j = h then nI g else if i = 220 + k ∧ j = h then -1 else if i = 211 + k ∧ j = h then nI g else s.1 i j := by
  unfold lyD; rw [ho]; dsimp only; rw [if_neg hF]; rfl
theorem ly_2 {k : Nat} : (lyD m F h k s).2 = s.2 := by
  unfold lyD
  split
  · rfl
  · split <;> rfl
theorem ly_at {k i j : Nat} (h1 : ¬ ((i = 205 ∨ i = 206 ∨ i = 207) ∧ j = k)) (h2 : ¬ ((i = 199 ∨ i = 200) ∧ s.2.1 204 k = some j)) (h3 : ¬ ((i = 211 + k ∨ i = 220 + k) ∧ j = h)) : (lyD m F h k s).1 i j = s.1 i j := by
  cases ho : s.2.1 204 k with
  | none => rw [ly_n ho, if_neg (by omega), if_neg (by omega)]
  | some g =>
    have h4 : ¬ ((i = 199 ∨ i = 200) ∧ j = g) := fun q => h2 ⟨q.1, by rw [ho, q.2]⟩
    by_cases hF : h < F g
    · rw [ly_i ho hF, if_neg (by omega), if_neg (by omega), if_neg (by omega)]
    · rw [ly_l ho hF, if_neg (by omega), if_neg (by omega), if_neg (by omega), if_neg (by omega), if_neg (by omega), if_neg (by omega), if_neg (by omega)]
theorem ly_loop (h8 : nC ≤ 8) (hS : SO nC nG z.2.1) : ∀ k, k ≤ nC → (fun S : DS => S.2 = z.2 ∧
    (∀ c, c < nC → (z.2.1 204 c = none ∨ k ≤ c) → S.1 205 c = z.1 205 c ∧ S.1 206 c = z.1 206 c ∧ S.1 207 c = z.1 207 c) ∧
    (∀ c g, c < k → z.2.1 204 c = some g → h < F g → S.1 205 c = z.1 205 c ∧ S.1 206 c = z.1 206 c ∧ S.1 207 c = z.1 207 c + nI 1) ∧
    (∀ c g, c < k → z.2.1 204 c = some g → ¬ h < F g → S.1 205 c = nI (h + 1) ∧ S.1 206 c = z.1 206 c + nI 1 ∧ S.1 207 c = z.1 207 c) ∧
    (∀ g, g < nG → (z.2.1 195 g = none ∨ h < F g ∨ ∃ c, z.2.1 195 g = some c ∧ k ≤ c) → S.1 199 g = z.1 199 g ∧ S.1 200 g = z.1 200 g) ∧
    (∀ g c, g < nG → z.2.1 195 g = some c → c < k → ¬ h < F g → S.1 199 g = z.1 199 g + nI 1 ∧ S.1 200 g = z.1 200 g + m (102 + c) (if h < 12 then 0 else 1)) ∧
    (∀ c j, c < nC → (k ≤ c ∨ j ≠ h) → S.1 (211 + c) j = z.1 (211 + c) j ∧ S.1 (220 + c) j = z.1 (220 + c) j) ∧
    (∀ c, c < k → S.1 (211 + c) h = oI (z.2.1 204 c) ∧ S.1 (220 + c) h = lieO F h (z.2.1 204 c)) ∧
    (∀ i, (i = 201 ∨ i = 202 ∨ i = 203 ∨ i = 208 ∨ i = 209) → S.1 i = z.1 i)) (lpS (lyD m F h) 0 k z)
  | 0, _ => ⟨rfl, fun _ _ _ => ⟨rfl, rfl, rfl⟩, fun _ _ hc => absurd hc (by omega), fun _ _ hc => absurd hc (by omega), fun _ _ _ => ⟨rfl, rfl⟩, fun _ _ _ _ hc => absurd hc (by omega), fun _ _ _ _ => ⟨rfl, rfl⟩, fun _ hc => absurd hc (by omega), fun _ _ => rfl⟩
  | k + 1, hk => by
    obtain ⟨i1, i2, i3, i4, i5, i6, i7, i8, i9⟩ := ly_loop h8 hS k (by omega)
    rw [lpS_snoc, Nat.zero_add]
    generalize lpS (lyD m F h) 0 k z = S at i1 i2 i3 i4 i5 i6 i7 i8 i9 ⊢
    have eo : S.2.1 = z.2.1 := by rw [i1]
    have hk5 : ∀ c g, z.2.1 204 c = some g → g < nG ∧ z.2.1 195 g = some c := hS.2
    refine ⟨ly_2.trans i1, fun c hc hz => ?_, fun c g hc hg hF => ?_, fun c g hc hg hF => ?_, fun g hg hz => ?_, fun g c hg hc hck hF => ?_, fun c j hc hz => ?_, fun c hc => ?_, fun i hi => ?_⟩
    · by_cases hck : c = k
      · subst hck
        rcases hz with hz | hz
        · have ho : S.2.1 204 c = none := by rw [eo]; exact hz
          rw [ly_n ho, ly_n ho, ly_n ho, if_neg (by omega), if_neg (by omega), if_neg (by omega), if_neg (by omega), if_neg (by omega), if_neg (by omega)]
          exact i2 c hc (Or.inl hz)
        · omega
      · rw [ly_at (by omega) (fun q => by omega) (by omega), ly_at (by omega) (fun q => by omega) (by omega), ly_at (by omega) (fun q => by omega) (by omega)]
        exact i2 c hc (hz.imp id (by omega))
    · by_cases hck : c = k
      · subst hck
        have ho : S.2.1 204 c = some g := by rw [eo]; exact hg
        obtain ⟨z1, z2, z3⟩ := i2 c (by omega) (Or.inr (Nat.le_refl _))
        rw [ly_i ho hF, ly_i ho hF, ly_i ho hF, if_neg (by omega), if_neg (by omega), if_neg (by omega), if_neg (by omega), if_neg (by omega), if_neg (by omega), if_pos ⟨rfl, rfl⟩, z3]
        exact ⟨z1, z2, rfl⟩
      · rw [ly_at (by omega) (fun q => by omega) (by omega), ly_at (by omega) (fun q => by omega) (by omega), ly_at (by omega) (fun q => by omega) (by omega)]
        exact i3 c g (by omega) hg hF
    · by_cases hck : c = k
      · subst hck
        have ho : S.2.1 204 c = some g := by rw [eo]; exact hg
        obtain ⟨z1, z2, z3⟩ := i2 c (by omega) (Or.inr (Nat.le_refl _))
        refine ⟨?_, ?_, ?_⟩
        · rw [ly_l ho hF, if_neg (by omega), if_neg (by omega), if_neg (by omega), if_pos ⟨rfl, rfl⟩]
        · rw [ly_l ho hF, if_neg (by omega), if_neg (by omega), if_pos ⟨rfl, rfl⟩, z2]
        · rw [ly_l ho hF, if_neg (by omega), if_neg (by omega), if_neg (by omega), if_neg (by omega), if_neg (by omega), if_neg (by omega), if_neg (by omega)]; exact z3
      · rw [ly_at (by omega) (fun q => by omega) (by omega), ly_at (by omega) (fun q => by omega) (by omega), ly_at (by omega) (fun q => by omega) (by omega)]
        exact i4 c g (by omega) hg hF
    · have hz2 : z.2.1 195 g = none ∨ h < F g ∨ ∃ c, z.2.1 195 g = some c ∧ k ≤ c := by
        rcases hz with hz | hz | ⟨c, hz1, hz2⟩
        · exact Or.inl hz
        · exact Or.inr (Or.inl hz)
        · exact Or.inr (Or.inr ⟨c, hz1, by omega⟩)
      by_cases hog : z.2.1 204 k = some g
      · have hs := (hk5 k g hog).2
        have hF : h < F g := by
          rcases hz with hz | hz | ⟨c, hz1, hz2⟩
          · rw [hs] at hz; cases hz
          · exact hz
          · rw [hs] at hz1; have := Option.some.inj hz1; omega
        have ho : S.2.1 204 k = some g := by rw [eo]; exact hog
        rw [ly_i ho hF, ly_i ho hF, if_neg (by omega), if_neg (by omega), if_neg (by omega), if_neg (by omega), if_neg (by omega), if_neg (by omega)]
        exact i5 g hg hz2
      · rw [ly_at (by omega) (fun q => by rw [eo] at q; exact hog q.2) (by omega), ly_at (by omega) (fun q => by rw [eo] at q; exact hog q.2) (by omega)]
        exact i5 g hg hz2
    · by_cases hck2 : c = k
      · subst hck2
        have hog := (hS.1 g c hg hc).2
        have ho : S.2.1 204 c = some g := by rw [eo]; exact hog
        obtain ⟨z1, z2⟩ := i5 g hg (Or.inr (Or.inr ⟨c, hc, Nat.le_refl _⟩))
        refine ⟨?_, ?_⟩
        · rw [ly_l ho hF, if_neg (by omega), if_pos ⟨rfl, rfl⟩, z1]
        · rw [ly_l ho hF, if_pos ⟨rfl, rfl⟩, z2]
      · have hog : ¬ S.2.1 204 k = some g := fun q => by
          rw [eo] at q
          have := (hk5 k g q).2
          rw [hc] at this; exact hck2 (Option.some.inj this)
        rw [ly_at (by omega) (fun q => hog q.2) (by omega), ly_at (by omega) (fun q => hog q.2) (by omega)]
        exact i6 g c hg hc (by omega) hF
    · rw [ly_at (by omega) (fun q => by omega) (by omega), ly_at (by omega) (fun q => by omega) (by omega)]
      exact i7 c j hc (hz.imp (by omega) id)
    · by_cases hck : c = k
      · subst hck
        cases hog : z.2.1 204 c with
        | none =>
          have ho : S.2.1 204 c = none := by rw [eo]; exact hog
          rw [ly_n ho, ly_n ho, if_neg (by omega), if_pos ⟨rfl, rfl⟩, if_pos ⟨rfl, rfl⟩]
          exact ⟨rfl, rfl⟩
        | some g =>
          have ho : S.2.1 204 c = some g := by rw [eo]; exact hog
          by_cases hF : h < F g
          · rw [ly_i ho hF, ly_i ho hF, if_neg (by omega), if_neg (by omega), if_pos ⟨rfl, rfl⟩, if_neg (by omega), if_pos ⟨rfl, rfl⟩]
            exact ⟨rfl, by unfold lieO; dsimp only; rw [if_pos hF]⟩
          · refine ⟨?_, ?_⟩
            · rw [ly_l ho hF, if_neg (by omega), if_neg (by omega), if_neg (by omega), if_neg (by omega), if_neg (by omega), if_neg (by omega), if_pos ⟨rfl, rfl⟩]; rfl
            · rw [ly_l ho hF, if_neg (by omega), if_neg (by omega), if_neg (by omega), if_neg (by omega), if_pos ⟨rfl, rfl⟩]
              unfold lieO; dsimp only; rw [if_neg hF]
      · rw [ly_at (by omega) (fun q => by omega) (by omega), ly_at (by omega) (fun q => by omega) (by omega)]
        exact i8 c (by omega)
    · funext j
      rw [ly_at (by omega) (fun q => by omega) (by omega), i9 i hi]
/-- a half's reckoning -/
def accD (m : pMI) (nC nG : Nat) (F : Nat → Nat) (h : Nat) (z : DS) : DS := lpS (lyD m F h) 0 nC (lpS (mkD h) 0 nG (up2 z.1 209 h (nI 0), z.2))
theorem sW_1 (a b : Int32) : sW a b h (h + 1) = if h < 12 then a else b := by
  unfold sW
  by_cases h1 : h < 12
  · rw [if_pos h1, show min (h + 1) 12 - h = 1 by omega, show h + 1 - max h 12 = 0 by omega, i_mul0, i_add0]
    exact Int32.mul_one a
  · rw [if_neg h1, show min (h + 1) 12 - h = 0 by omega, show h + 1 - max h 12 = 1 by omega, i_mul0, i_0add]
    exact Int32.mul_one b
def PLI (nC nG : Nat) (F : Nat → Nat) (h : Nat) (s : DS) : Prop := ∀ c, c < nC → ∀ j, j < h → (s.1 (211 + c) j = -1 ∧ s.1 (220 + c) j = -1) ∨ ∃ b, b < nG ∧ s.1 (211 + c) j = nI b ∧ s.1 (220 + c) j = if j < F b then -1 else nI b
theorem acc_rel (hL : PL2 t nC nG m n F T h) (hT : LT nG T (h + 1) s) (hh : h < 24) (H : HR t nC nG m n F T h e s y) : HR t nC nG m n F T (h + 1) e (accD m nC nG F h s) y ∧ (accD m nC nG F h s).2 = s.2 ∧ (∀ c j, c < nC → j ≠ h → (accD m nC nG F h s).1 (211 + c) j = s.1 (211 + c) j ∧ (accD m nC nG F h s).1 (220 + c) j = s.1 (220 + c) j) ∧ (∀ c, c < nC → (accD m nC nG F h s).1 (211 + c) h = oI (s.2.1 204 c) ∧ (accD m nC nG F h s).1 (220 + c) h = lieO F h (s.2.1 204 c)) := by
  obtain ⟨hw, ht, _, hC8, hG8, hFT⟩ := hL
  obtain ⟨⟨hG, hCC, hSO, hfr⟩, hP, hFr⟩ := H
  unfold accD
  obtain ⟨a1, a2, a3, a4⟩ := mk_loop (h := h) (z := (up2 s.1 209 h (nI 0), s.2)) nG hG8
  generalize lpS (mkD h) 0 nG (up2 s.1 209 h (nI 0), s.2) = M at a1 a2 a3 a4 ⊢
  have eM : M.2.1 = s.2.1 := by rw [a1]
  have hSM : SO nC nG M.2.1 := by rw [eM]; exact hSO
  obtain ⟨b1, b2, b3, b4, b5, b6, b7, b8, b9⟩ := ly_loop (m := m) (F := F) (h := h) (z := M) hC8 hSM nC (Nat.le_refl _)
  generalize lpS (lyD m F h) 0 nC M = S at b1 b2 b3 b4 b5 b6 b7 b8 b9 ⊢
  have eS : S.2.1 = s.2.1 := by rw [b1, a1]
  rw [eM] at b2 b3 b4 b5 b6 b8
  have hM : ∀ i j, i ≠ 203 → i ≠ 209 → M.1 i j = s.1 i j := fun i j h1 h2 => by
    rw [a4 i j h1 (fun q => h2 q.1)]
    dsimp only
    rw [up2_row h2]
  refine ⟨⟨⟨fun b hb => ?_, fun c hc => ?_, by rw [eS]; exact hSO, fun c => by rw [eS]; exact hfr c⟩, fun h57 => ?_, hFr⟩, b1.trans a1, fun c j hc hj => ?_, fun c hc => ?_⟩
  · have z := hG b hb
    unfold GRs GR at z ⊢
    obtain ⟨z1, z2, z3, z4, z5, z6, z7, z8⟩ := z
    rw [eS, b9 201 (by omega), b9 202 (by omega), b9 203 (by omega), hM 201 b (by omega) (by omega), hM 202 b (by omega) (by omega)]
    refine ⟨z1, z2, z3, z4, z5, z6, ?_, ?_⟩
    · cases hc : s.2.1 195 b with
      | none =>
        rw [hc] at z7
        obtain ⟨q1, q2⟩ := b5 b hb (Or.inl hc)
        dsimp only at z7 ⊢
        rw [q1, q2, hM 199 b (by omega) (by omega), hM 200 b (by omega) (by omega)]
        exact z7
      | some c =>
        rw [hc] at z7
        dsimp only at z7 ⊢
        obtain ⟨y1, y2, k, y3, y4, y5, y6⟩ := z7
        have hTb : h + 1 ≤ T b := by
          apply Decidable.byContradiction
          intro hn
          have := (hT b hb (by omega)).1
          rw [hc] at this; cases this
        refine ⟨y1, hTb, k, y3, by omega, ?_⟩
        by_cases hF : h < F b
        · obtain ⟨q1, q2⟩ := b5 b hb (Or.inr (Or.inl hF))
          rw [q1, q2, hM 199 b (by omega) (by omega), hM 200 b (by omega) (by omega), y5, y6, sW_0 _ _ (by omega), sW_0 _ _ (by omega), show h - max k (F b) = h + 1 - max k (F b) by omega]
          exact ⟨rfl, rfl⟩
        · obtain ⟨q1, q2⟩ := b6 b c hb hc (hSO.1 b c hb hc).1 hF
          rw [q1, q2, hM 199 b (by omega) (by omega), hM 200 b (by omega) (by omega), y5, y6, addI, show h - max k (F b) + 1 = h + 1 - max k (F b) by omega]
          refine ⟨rfl, ?_⟩
          rw [Int32.add_assoc]
          congr 1
          rw [← sW_add _ _ (show max k (F b) ≤ h by omega) (Nat.le_succ h), sW_1]
          congr 1
          split <;> rfl
    · rw [a2 b]
      dsimp only
      rw [up2_row (by omega)]
      cases hv : s.2.1 196 b with
      | none =>
        rw [hv] at z8
        rw [if_neg (fun q => by have := q.2; unfold wtB at this; cases this)]
        exact z8
      | some v =>
        rw [hv] at z8
        dsimp only at z8 ⊢
        refine ⟨z8.1, ?_⟩
        by_cases hvh : v ≤ h
        · rw [if_pos ⟨hb, by unfold wtB; exact decide_eq_true hvh⟩, z8.2, addI, show h - v + 1 = h + 1 - v by omega]
        · rw [if_neg (fun q => by have := q.2; unfold wtB at this; exact hvh (of_decide_eq_true this)), z8.2, show h - v = h + 1 - v by omega]
  · have z := hCC c hc
    unfold CRs CR at z ⊢
    rw [eS, b9 208 (by omega), hM 208 c (by omega) (by omega)]
    refine ⟨z.1, ?_⟩
    have z2 := z.2
    cases ho : s.2.1 204 c with
    | none =>
      rw [ho] at z2
      obtain ⟨q1, q2, q3⟩ := b2 c hc (Or.inl ho)
      dsimp only at z2 ⊢
      rw [q2, q3, hM 206 c (by omega) (by omega), hM 207 c (by omega) (by omega)]
      exact z2
    | some b =>
      rw [ho] at z2
      dsimp only at z2 ⊢
      obtain ⟨k, y1, y2, y3, y4, y5⟩ := z2
      refine ⟨k, y1, by omega, ?_⟩
      by_cases hF : h < F b
      · obtain ⟨q1, q2, q3⟩ := b3 c b hc ho hF
        rw [q1, q2, q3, hM 205 c (by omega) (by omega), hM 206 c (by omega) (by omega), hM 207 c (by omega) (by omega), y3, y4, y5, addI, if_pos (by omega), if_pos (by omega), show h - max k (F b) = h + 1 - max k (F b) by omega]
        exact ⟨rfl, rfl, by congr 2; omega⟩
      · obtain ⟨q1, q2, q3⟩ := b4 c b hc ho hF
        rw [q1, q2, q3, hM 206 c (by omega) (by omega), hM 207 c (by omega) (by omega), y4, y5, addI, if_neg (by omega)]
        exact ⟨rfl, by congr 2; omega, by congr 2; omega⟩
  · obtain ⟨⟨H1, H2⟩, H3, H4⟩ := hP h57
    refine ⟨⟨fun c hc j hj => ?_, fun c hc j hj hj2 => H2 c hc j (by omega) hj2⟩, fun j hj i hi => ?_, fun j hj hj2 => H4 j (by omega) hj2⟩
    · rw [eS]
      by_cases hjh : j = h
      · subst hjh
        rw [(b8 c hc).1]
        cases ho : s.2.1 204 c with
        | none => exact (H2 c hc j (Nat.le_refl _) hh).symm
        | some b =>
          have z := hCC c hc
          unfold CRs CR at z
          rw [ho] at z
          obtain ⟨_, k, y1, y2, _⟩ := z
          dsimp only
          rw [y1, uN_nI (by omega), if_pos y2]
          rfl
      · rw [(b7 c j hc (Or.inr hjh)).1, hM (211 + c) j (by omega) (by omega)]
        exact H1 c hc j (by omega)
    · rw [eS, b9 209 (by omega)]
      by_cases hjh : j = h
      · subst hjh
        rw [a3 i hi, H4 j (Nat.le_refl _) hh]
        dsimp only
        rw [up2_s]
      · rw [a4 209 j (by omega) (by omega)]
        dsimp only
        rw [up2_n hjh]
        exact H3 j (by omega) i hi
  · obtain ⟨q1, q2⟩ := b7 c j hc (Or.inr hj)
    rw [q1, q2, hM (211 + c) j (by omega) (by omega), hM (220 + c) j (by omega) (by omega)]
    exact ⟨rfl, rfl⟩
  · exact b8 c hc
theorem pli_acc (hL : PL2 t nC nG m n F T h) (hT : LT nG T (h + 1) s) (hh : h < 24) (H : HR t nC nG m n F T h e s y) (hp : PLI nC nG F h s) : PLI nC nG F (h + 1) (accD m nC nG F h s) := fun c hc j hj => by
  obtain ⟨_, _, r1, r2⟩ := acc_rel hL hT hh H
  by_cases hjh : j = h
  · subst hjh
    rw [(r2 c hc).1, (r2 c hc).2]
    cases ho : s.2.1 204 c with
    | none => exact Or.inl ⟨rfl, rfl⟩
    | some b => exact Or.inr ⟨b, (H.1.2.2.1.2 c b ho).1, rfl, rfl⟩
  · rw [(r1 c j hc hjh).1, (r1 c j hc hjh).2]
    exact hp c hc j (by omega)
end REL6

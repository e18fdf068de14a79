section REL3
variable {t nC nG : Nat} {m n : pMI} {F T : Nat → Nat} {h e : Nat} {s : DS} {y : CS}
def wtB (o : Option Nat) (j : Nat) : Bool := match o with
  | none => false
  | some v => decide (v ≤ j)
def PTx (t nC h : Nat) (s : DS) (y : CS) : Prop := (∀ c, c < nC → ∀ j, j < h → s.1 (211 + c) j = (match s.2.1 204 c with
    | none => y.2.2.2.2.1 c j
    | some b => if uN (y.1 (t + 4) b) ≤ j then nI b else y.2.2.2.2.1 c j)) ∧ (∀ c, c < nC → ∀ j, h ≤ j → j < 24 → y.2.2.2.2.1 c j = -1)
def PWx (t nG h : Nat) (s : DS) (y : CS) : Prop := (∀ j, j < h → ∀ i, i < 32 → bt (s.1 209 j) i = (bt (y.1 (t + 9) j) i || (decide (i < nG) && wtB (s.2.1 196 i) j))) ∧ (∀ j, h ≤ j → j < 24 → y.1 (t + 9) j = nI 0)
def PAI (t nC nG h : Nat) (s : DS) (y : CS) : Prop := t = 57 → PTx t nC h s y ∧ PWx t nG h s y
theorem lp_tw2 {c b : Nat} : ∀ (n k : Nat) (x : CS) (a j : Nat), (lpS (fun j s => sTw c j (nI b) s) k n x).2.2.2.2.1 a j = if a = c ∧ k ≤ j ∧ j < k + n then nI b else x.2.2.2.2.1 a j
  | 0, k, x, a, j => by rw [if_neg (by omega)]; rfl
  | n + 1, k, x, a, j => by
    show (lpS (fun j s => sTw c j (nI b) s) (k + 1) n (sTw c k (nI b) x)).2.2.2.2.1 a j = _
    rw [lp_tw2 n (k + 1) (sTw c k (nI b) x) a j]
    show (if _ then _ else up2 x.2.2.2.2.1 c k (nI b) a j) = _
    unfold up2
    by_cases h1 : a = c ∧ k + 1 ≤ j ∧ j < k + 1 + n
    · rw [if_pos h1, if_pos (by omega)]
    · rw [if_neg h1]
      by_cases h2 : a = c ∧ j = k
      · rw [if_pos h2, if_pos (by omega)]
      · rw [if_neg h2, if_neg (by omega)]
theorem lp_pw2 {b : Nat} : ∀ (n k : Nat) (x : CS) (j : Nat), (lpS (pwS t b) k n x).1 (t + 9) j = if k ≤ j ∧ j < k + n then x.1 (t + 9) j ||| (nI 1 <<< (nI b &&& 31)) else x.1 (t + 9) j
  | 0, k, x, j => by rw [if_neg (by omega)]; rfl
  | n + 1, k, x, j => by
    show (lpS (pwS t b) (k + 1) n (pwS t b k x)).1 (t + 9) j = _
    rw [lp_pw2 n (k + 1) (pwS t b k x) j]
    have e : (pwS t b k x).1 (t + 9) j = if j = k then x.1 (t + 9) j ||| (nI 1 <<< (nI b &&& 31)) else x.1 (t + 9) j := by
      unfold pwS sM up2
      by_cases h1 : j = k
      · subst h1; simp
      · simp [h1]
    by_cases h1 : k + 1 ≤ j ∧ j < k + 1 + n
    · rw [if_pos h1, if_pos (by omega), e, if_neg (by omega)]
    · rw [if_neg h1, e]
      by_cases h2 : j = k
      · rw [if_pos h2, if_pos (by omega)]
      · rw [if_neg h2, if_neg (by omega)]
theorem gu_tw {b c k : Nat} (h57 : t = 57) (a j : Nat) : (guC t F b h c k y).2.2.2.2.1 a j = if a = c ∧ k ≤ j ∧ j < k + (h - k) then nI b else y.2.2.2.2.1 a j := by
  unfold guC
  show (ptC t c b k h _).2.2.2.2.1 a j = _
  unfold ptC
  rw [if_pos h57, lp_tw2]
  rfl
theorem ew_9 {b v : Nat} (h57 : t = 57) (j : Nat) : (ewC t b h v y).1 (t + 9) j = if v ≤ j ∧ j < v + (h - v) then y.1 (t + 9) j ||| (nI 1 <<< (nI b &&& 31)) else y.1 (t + 9) j := by
  unfold ewC
  show (pwC t b v h _).1 (t + 9) j = _
  unfold pwC
  rw [if_pos h57, lp_pw2]
  rfl
theorem pai_y {z : CS} (h1 : z.1 (t + 4) = y.1 (t + 4)) (h2 : z.1 (t + 9) = y.1 (t + 9)) (h3 : z.2.2.2.2.1 = y.2.2.2.2.1) (H : PAI t nC nG h s y) : PAI t nC nG h s z := by
  unfold PAI PTx PWx
  rw [h1, h2, h3]
  exact H
theorem pai_gu {b c k : Nat} (hk : y.1 (t + 4) b = nI k) (hkh : k ≤ h) (hh : h < 100) (ho : s.2.1 204 c = some b) (H : PAI t nC nG h s y) : PAI t nC nG h (s.1, up2 (up2 s.2.1 204 c none) 195 b none, s.2.2) (guC t F b h c k y) := fun h57 => by
  obtain ⟨⟨H1, H2⟩, H3, H4⟩ := H h57
  obtain ⟨q1, q2, q3, q4, q5, q6, q7⟩ := guC_q (t := t) (F := F) (b := b) (h := h) (c := c) (k := k) (x := y)
  refine ⟨⟨fun d hd j hj => ?_, fun d hd j hj hj2 => ?_⟩, fun j hj i hi => ?_, fun j hj hj2 => ?_⟩
  · dsimp only
    rw [H1 d hd j hj, q1, gu_tw h57, up2_row (show (204 : Nat) ≠ 195 by omega)]
    by_cases hdc : d = c
    · subst hdc
      rw [up2_s, ho]
      dsimp only
      rw [hk, uN_nI (by omega)]
      by_cases h1 : k ≤ j
      · rw [if_pos h1, if_pos (by omega)]
      · rw [if_neg h1, if_neg (by omega)]
    · rw [up2_n hdc, if_neg (by omega)]
  · rw [gu_tw h57, if_neg (by omega)]; exact H2 d hd j hj hj2
  · dsimp only
    rw [q1, up2_row (show (196 : Nat) ≠ 195 by omega), up2_row (show (196 : Nat) ≠ 204 by omega)]
    exact H3 j hj i hi
  · rw [q1]; exact H4 j hj hj2
theorem pai_ew {b v : Nat} (hb : b < nG) (hn : nG ≤ 8) (hv : s.2.1 196 b = some v) (hvh : v ≤ h) (H : PAI t nC nG h s y) : PAI t nC nG h (wfD b none s) (ewC t b h v y) := fun h57 => by
  obtain ⟨⟨H1, H2⟩, H3, H4⟩ := H h57
  obtain ⟨q1, q2, q3, q4, q5, q6⟩ := ewC_q (t := t) (b := b) (h := h) (v := v) (x := y)
  refine ⟨⟨fun d hd j hj => ?_, fun d hd j hj hj2 => ?_⟩, fun j hj i hi => ?_, fun j hj hj2 => ?_⟩
  · unfold wfD
    dsimp only
    rw [q6, q1 (t + 4) (by omega), up2_row (show (204 : Nat) ≠ 196 by omega)]
    exact H1 d hd j hj
  · rw [q6]; exact H2 d hd j hj hj2
  · unfold wfD
    dsimp only
    rw [H3 j hj i hi, ew_9 h57]
    by_cases hib : i = b
    · subst hib
      rw [up2_s, hv]
      by_cases h1 : v ≤ j
      · rw [if_pos (by omega), bit_set (by omega) hi]; simp [wtB, h1, hb]
      · rw [if_neg (by omega)]; simp [wtB, h1]
    · rw [up2_n hib]
      by_cases h1 : v ≤ j
      · rw [if_pos (by omega), bit_set (by omega) hi]; simp [hib]
      · rw [if_neg (by omega)]
  · rw [ew_9 h57, if_neg (by omega)]; exact H4 j hj hj2
theorem pai_wt {b v : Nat} (h6 : s.2.1 196 b = none) (hv : h ≤ v) (H : PAI t nC nG h s y) : PAI t nC nG h (wfD b (some v) s) (sO 5 b (some v) y) := fun h57 => by
  obtain ⟨⟨H1, H2⟩, H3, H4⟩ := H h57
  refine ⟨⟨fun d hd j hj => ?_, fun d hd j hj hj2 => ?_⟩, fun j hj i hi => ?_, fun j hj hj2 => ?_⟩
  · exact H1 d hd j hj
  · exact H2 d hd j hj hj2
  · unfold wfD
    dsimp only
    have z := H3 j hj i hi
    by_cases hib : i = b
    · subst hib
      rw [up2_s]
      rw [h6] at z
      rw [z]
      show (bt (y.1 (t + 9) j) i || (decide (i < nG) && false)) = (bt (y.1 (t + 9) j) i || (decide (i < nG) && decide (v ≤ j)))
      rw [decide_eq_false (show ¬ v ≤ j by omega)]
    · rw [up2_n hib]; exact z
  · exact H4 j hj hj2
theorem pai_s {s' : DS} (h1 : ∀ c, c < nC → s'.1 (211 + c) = s.1 (211 + c)) (h2 : s'.1 209 = s.1 209) (h3 : s'.2.1 204 = s.2.1 204) (h4 : s'.2.1 196 = s.2.1 196) (H : PAI t nC nG h s y) : PAI t nC nG h s' y := fun h57 => by
  obtain ⟨⟨H1, H2⟩, H3, H4⟩ := H h57
  refine ⟨⟨fun d hd j hj => ?_, H2⟩, fun j hj i hi => ?_, H4⟩
  · rw [h1 d hd, h3]; exact H1 d hd j hj
  · rw [h2, h4]; exact H3 j hj i hi
theorem pai_sit {b c : Nat} (hC8 : nC ≤ 8) (hh : h < 100) (hown : s.2.1 204 c = none) (hs : SO nC nG s.2.1) (h5 : s.2.1 195 b = none) (h6 : s.2.1 196 b = none) (H : PAI t nC nG h s y) : PAI t nC nG h (sitD b h c s) (tbC t b h c y) := fun h57 => by
  obtain ⟨⟨H1, H2⟩, H3, H4⟩ := H h57
  have q1 : (tbC t b h c y).1 = up2 y.1 (t + 4) b (nI h) := tbC_1
  have q2 : (tbC t b h c y).2.2.2.2.1 = y.2.2.2.2.1 := by unfold tbC; split <;> rfl
  refine ⟨⟨fun d hd j hj => ?_, fun d hd j hj hj2 => ?_⟩, fun j hj i hi => ?_, fun j hj hj2 => ?_⟩
  · rw [q1, q2]
    unfold sitD
    dsimp only
    rw [up2_row (show 211 + d ≠ 208 by omega), up2_row (show 211 + d ≠ 201 by omega), up2_row (show 211 + d ≠ 205 by omega), up2_row (show (204 : Nat) ≠ 198 by omega), up2_row (show (204 : Nat) ≠ 196 by omega), up2_row (show (204 : Nat) ≠ 195 by omega), H1 d hd j hj]
    by_cases hdc : d = c
    · subst hdc
      rw [up2_s, hown]
      dsimp only
      rw [up2_s, uN_nI (by omega), if_neg (by omega)]
    · rw [up2_n hdc]
      cases hq : s.2.1 204 d with
      | none => rfl
      | some a =>
        have hab : a ≠ b := fun z => by have := (hs.2 d a hq).2; rw [z, h5] at this; cases this
        dsimp only
        rw [up2_n hab]
  · rw [q2]; exact H2 d hd j hj hj2
  · rw [q1]
    unfold sitD
    dsimp only
    rw [up2_row (show (209 : Nat) ≠ 208 by omega), up2_row (show (209 : Nat) ≠ 201 by omega), up2_row (show (209 : Nat) ≠ 205 by omega), up2_row (show (196 : Nat) ≠ 198 by omega), up2_row (show t + 9 ≠ t + 4 by omega), H3 j hj i hi]
    by_cases hib : i = b
    · subst hib; rw [up2_s, h6]
    · rw [up2_n hib, up2_row (show (196 : Nat) ≠ 195 by omega), up2_row (show (196 : Nat) ≠ 204 by omega)]
  · rw [q1, up2_row (by omega)]; exact H4 j hj hj2
/-- both, with what the class's world keeps -/
def HR (t nC nG : Nat) (m n : pMI) (F T : Nat → Nat) (h e : Nat) (s : DS) (y : CS) : Prop := CORE t nC nG m F T h e s y ∧ PAI t nC nG h s y ∧ FrC t n y
/-- the pools are alike -/
def PL2 (t nC nG : Nat) (m n : pMI) (F T : Nat → Nat) (h : Nat) : Prop := (∀ c, c < nC → n 4 c = m (102 + c) 0 ∧ n 5 c = m (102 + c) 1) ∧ 32 ≤ t ∧ h < 100 ∧ nC ≤ 8 ∧ nG ≤ 8 ∧ ∀ b, b < nG → F b < T b
theorem hr_k {b c : Nat} (hb : b < nG) (hc : s.2.1 195 b = some c) (H : CORE t nC nG m F T h e s y) : s.2.1 196 b = none ∧ h ≤ T b ∧ ∃ k, y.1 (t + 4) b = nI k ∧ k ≤ h := by
  have z := H.1 b hb
  unfold GRs GR at z
  rw [hc] at z
  obtain ⟨z1, z2, k, z3, z4, _⟩ := z.2.2.2.2.2.2.1
  exact ⟨z1, z2, k, z3, z4⟩
theorem hr_v {b v : Nat} (hb : b < nG) (hc : s.2.1 196 b = some v) (H : CORE t nC nG m F T h e s y) : v < T b ∧ s.2.1 195 b = none := by
  have z := H.1 b hb
  unfold GRs GR at z
  refine ⟨?_, ?_⟩
  · rw [hc] at z; exact z.2.2.2.2.2.2.2.1
  · cases h5 : s.2.1 195 b with
    | none => rfl
    | some c => have := (hr_k hb h5 H).1; rw [hc] at this; cases this
theorem hr_gu {b c : Nat} (hL : PL2 t nC nG m n F T h) (hb : b < nG) (hc : s.2.1 195 b = some c) (H : HR t nC nG m n F T h e s y) : HR t nC nG m n F T h e (s.1, up2 (up2 s.2.1 204 c none) 195 b none, s.2.2) (guC t F b h c (uN (y.1 (t + 4) b)) y) := by
  obtain ⟨_, _, k, hk, hkh⟩ := hr_k hb hc H.1
  refine ⟨rel_gu H.2.2 hL.1 hL.2.1 hL.2.2.1 hb hc H.1, ?_, FrC_gu H.2.2⟩
  rw [hk, uN_nI (by have := hL.2.2.1; omega)]
  exact pai_gu hk hkh hL.2.2.1 (H.1.2.2.1.1 b c hb hc).2 H.2.1
theorem hr_ew {b v : Nat} (hL : PL2 t nC nG m n F T h) (hb : b < nG) (hv : s.2.1 196 b = some v) (hvh : v ≤ h) (H : HR t nC nG m n F T h e s y) : HR t nC nG m n F T h e (wfD b none s) (ewC t b h v (uqC t nG b y)) := by
  refine ⟨rel_ew hb hv hvh H.1, ?_, FrC_ew (FrC_q H.2.2)⟩
  refine pai_ew hb hL.2.2.2.2.1 hv hvh (pai_y (y := y) ?_ ?_ rfl H.2.1)
  · funext j; show (if t + 4 = t + 7 then _ else y.1 (t + 4) j) = _; rw [if_neg (by omega)]
  · funext j; show (if t + 9 = t + 7 then _ else y.1 (t + 9) j) = _; rw [if_neg (by omega)]
theorem hr_wt {b v : Nat} (hb : b < nG) (h5 : s.2.1 195 b = none) (h6 : s.2.1 196 b = none) (hv : h ≤ v) (hvT : v < T b) (H : HR t nC nG m n F T h e s y) : HR t nC nG m n F T h e (wfD b (some v) s) (sO 5 b (some v) y) :=
  ⟨rel_wt hb h5 h6 hv hvT H.1, pai_wt h6 hv H.2.1, FrC_e H.2.2 rfl⟩
theorem hr_off {b c : Nat} (hL : PL2 t nC nG m n F T h) (hb : b < nG) (hc : s.2.1 195 b = some c) (hhF : h ≤ F b) (H : HR t nC nG m n F T h e s y) : HR t nC nG m n F T h e (offD F h b s) (ofC t F h b c y) := by
  refine ⟨rel_off H.2.2 hL.1 hL.2.1 hL.2.2.1 hb hc hhF (hL.2.2.2.2.2 b hb) H.1, ?_, ?_⟩
  · obtain ⟨h6, _, k, hk, hkh⟩ := hr_k hb hc H.1
    have a1 : PAI t nC nG h (up2 s.1 202 b (s.1 202 b + nI 1), s.2) (sFa b 6 (y.2.1 b 6 + nI 1) y) := by
      refine pai_s (s := s) ?_ ?_ rfl rfl (pai_y (y := y) rfl rfl rfl H.2.1)
      · intro d hd; dsimp only; exact up2_row (by omega)
      · dsimp only; exact up2_row (by omega)
    have a2 := pai_gu (F := F) (b := b) (c := c) (k := k) (s := (up2 s.1 202 b (s.1 202 b + nI 1), s.2)) (y := sFa b 6 (y.2.1 b 6 + nI 1) y) hk hkh hL.2.2.1 (H.1.2.2.1.1 b c hb hc).2 a1
    have a3 := pai_wt (b := b) (v := F b) (by dsimp only; rw [up2_row (by omega), up2_row (by omega)]; exact h6) hhF a2
    unfold offD frD ofC
    rw [hc, show max (F b) h = F b by omega, hk, uN_nI (by have := hL.2.2.1; omega)]
    exact pai_y rfl rfl rfl a3
  · intro a j haj
    show (guC t F b h c (uN (y.1 (t + 4) b)) (sFa b 6 (y.2.1 b 6 + nI 1) y)).1 a j = _
    rw [guC_q.1]; exact H.2.2 a j haj
theorem hr_sit {b c : Nat} (hL : PL2 t nC nG m n F T h) (he : e < 1000) (hb : b < nG) (hcn : c < nC) (h5 : s.2.1 195 b = none) (h6 : s.2.1 196 b = none) (hown : s.2.1 204 c = none) (hhT : h < T b) (H : HR t nC nG m n F T h e s y) : HR t nC nG m n F T h (e + 1) (sitD b h c s) (tbC t b h c y) := by
  have z := H.1.1 b hb
  unfold GRs GR at z
  rw [h5, h6] at z
  obtain ⟨z1, z2, z3, z4, z5, z6, ⟨z7, z8⟩, z9⟩ := z
  refine ⟨rel_sit hb hcn h5 hown hhT (Or.inl h6) z2 z9 he hL.2.2.1 (fun a ha _ => H.1.1 a ha) ⟨z1, z3, z4, z5, z6, z7, z8⟩ H.1.2.1 H.1.2.2.1 H.1.2.2.2, pai_sit hL.2.2.2.1 hL.2.2.1 hown H.1.2.2.1 h5 h6 H.2.1, FrC_e (FrC_m H.2.2 (Or.inl rfl)) tbC_1⟩
theorem hr_e {e' : Nat} (he : e ≤ e') (H : HR t nC nG m n F T h e s y) : HR t nC nG m n F T h e' s y := ⟨rel_e he H.1, H.2⟩
theorem hr_y {z : CS} (h1 : z.1 (t + 4) = y.1 (t + 4)) (h9 : z.1 (t + 9) = y.1 (t + 9)) (h2 : z.2.2.2.1 = y.2.2.2.1) (h3 : z.2.1 = y.2.1) (h4 : z.2.2.1 = y.2.2.1) (h5 : z.2.2.2.2.2.2.1 = y.2.2.2.2.2.2.1) (h6 : z.2.2.2.2.1 = y.2.2.2.2.1) (hf : FrC t n z) (H : HR t nC nG m n F T h e s y) : HR t nC nG m n F T h e s z :=
  ⟨rel_y h1 h2 h3 h4 h5 H.1, pai_y h1 h9 h6 H.2.1, hf⟩
/-- who must leave leaves, on both sides -/
theorem hr_lv {b : Nat} (hL : PL2 t nC nG m n F T h) (hb : b < nG) (H : HR t nC nG m n F T h e s y) : HR t nC nG m n F T h e (lvD T h b s) (lvS t nG F T h b y) := by
  have z := H.1.1 b hb
  have z1 : y.2.2.2.1 3 b = s.2.1 195 b := z.1
  have z2 : y.2.2.2.1 5 b = s.2.1 196 b := z.2.1
  unfold lvD lvS
  split
  · rename_i hT
    unfold frD
    rw [z1]
    cases hc : s.2.1 195 b with
    | some c =>
      dsimp only
      have h6 := (hr_k hb hc H.1).1
      have a1 := hr_gu hL hb hc H
      have e9 : wfD b none (s.1, up2 (up2 s.2.1 204 c none) 195 b none, s.2.2) = (s.1, up2 (up2 s.2.1 204 c none) 195 b none, s.2.2) := by
        unfold wfD
        refine Prod.ext rfl (Prod.ext ?_ rfl)
        funext i j
        by_cases hij : i = 196 ∧ j = b
        · obtain ⟨rfl, rfl⟩ := hij; dsimp only; rw [up2_s, up2_row (by omega), up2_row (by omega), h6]
        · exact up2_nn hij
      rw [e9]
      exact a1
    | none =>
      dsimp only
      rw [z2]
      cases hv : s.2.1 196 b with
      | some v => exact hr_ew hL hb hv (by have := (hr_v hb hv H.1).1; omega) H
      | none =>
        dsimp only
        have e9 : wfD b none s = s := by
          unfold wfD
          refine Prod.ext rfl (Prod.ext ?_ rfl)
          funext i j
          by_cases hij : i = 196 ∧ j = b
          · obtain ⟨rfl, rfl⟩ := hij; dsimp only; rw [up2_s, hv]
          · exact up2_nn hij
        rw [e9]; exact H
  · exact H
/-- the hotel goes by, on both sides -/
theorem hr_to {ob : Int32} (hL : PL2 t nC nG m n F T h) (ho : 0 < ob) (H : HR t nC nG m n F T h e s y) : ∀ k, k ≤ nG → HR t nC nG m n F T h e (batD F h (fun b => decide (b < k) && offP nG h ob s nC b) s) (lpS (toS t F ob h) 0 k y)
  | 0, _ => by
    have : (fun b => decide (b < 0) && offP nG h ob s nC b) = fun _ => false := by funext b; simp
    rw [this, bat_0]; exact H
  | k + 1, hk => by
    have ih := hr_to hL ho H k (by omega)
    rw [lpS_snoc, Nat.zero_add]
    generalize lpS (toS t F ob h) 0 k y = z at ih ⊢
    have hS := H.1.2.2.1
    have hPk : (decide (k < k) && offP nG h ob s nC k) = false := by simp
    have e5 : (batD F h (fun b => decide (b < k) && offP nG h ob s nC b) s).2.1 195 k = s.2.1 195 k := bat_195 hPk
    have hz3 : z.2.2.2.1 3 k = s.2.1 195 k := (ih.1.1 k (by omega)).1.trans e5
    unfold toS
    rw [hz3]
    have hsame : offP nG h ob s nC k = false → (fun b => decide (b < k + 1) && offP nG h ob s nC b) = (fun b => decide (b < k) && offP nG h ob s nC b) := fun hz => by
      funext b
      by_cases hb : b = k
      · subst hb; simp [hz]
      · rw [show decide (b < k + 1) = decide (b < k) by simp; omega]
    cases hc : s.2.1 195 k with
    | none =>
      dsimp only
      rw [hsame (by unfold offP; rw [hc]; simp)]
      exact ih
    | some c =>
      dsimp only
      obtain ⟨hcn, hown⟩ := hS.1 k c (by omega) hc
      obtain ⟨h6, hT, k0, hk0, hkh⟩ := hr_k (b := k) (by omega) (e5.trans hc) ih.1
      have hsin : s.1 205 c = nI (if h ≤ F k then k0 else h) := by
        have q := ih.1.2.1 c hcn
        unfold CRs CR at q
        have e6 : (batD F h (fun b => decide (b < k) && offP nG h ob s nC b) s).2.1 204 c = some k := by
          rw [bat_204, hown]
          dsimp only
          rw [hPk]; rfl
        rw [e6] at q
        obtain ⟨_, k1, q1, q2, q3, _⟩ := q
        have ek : k1 = k0 := nI_inj (by have := hL.2.2.1; omega) (by have := hL.2.2.1; omega) (q1.symm.trans hk0)
        subst ek
        exact q3
      rw [hk0, uN_nI (by have := hL.2.2.1; omega)]
      have hP : offP nG h ob s nC k = decide (h ≤ F k ∧ ob ≤ nI (h - k0)) := by
        unfold offP
        rw [hc]
        dsimp only
        rw [hsin]
        by_cases hF : h ≤ F k
        · rw [if_pos hF, pk_sub (by omega)]
          simp [hF, hcn, show k < nG by omega, Int32.not_lt]
        · rw [if_neg hF, pk_sub (by omega), Nat.sub_self]
          have : nI 0 < ob := ho
          simp [hF, this]
      by_cases hcd : h ≤ F k ∧ ob ≤ nI (h - k0)
      · rw [if_pos hcd]
        have a1 := hr_off hL (by omega) (e5.trans hc) hcd.1 ih
        rw [bat_add hPk hc hown (fun d hd => by have := (hS.2 d k hd).2; rw [hc] at this; exact (Option.some.inj this).symm)] at a1
        unfold ofC at a1
        rw [hk0, uN_nI (by have := hL.2.2.1; omega)] at a1
        have e8 : ud (fun b => decide (b < k) && offP nG h ob s nC b) k true = (fun b => decide (b < k + 1) && offP nG h ob s nC b) := by
          funext b
          unfold ud
          by_cases hb : b = k
          · subst hb; rw [if_pos rfl, hP, decide_eq_true hcd]; simp
          · rw [if_neg hb, show decide (b < k + 1) = decide (b < k) by simp; omega]
        rw [e8] at a1
        exact a1
      · rw [if_neg hcd, hsame (by rw [hP, decide_eq_false hcd])]
        exact ih
theorem hr_hg {ob : Int32} {go : Nat} (hL : PL2 t nC nG m n F T h) (ho : 0 < ob) (H : HR t nC nG m n F T h e s y) : HR t nC nG m n F T h e (hgD F h ob nC go s) (if gB go h then lpS (toS t F ob h) 0 nG y else y) := by
  unfold hgD
  cases hg : gB go h with
  | false => exact H
  | true =>
    rw [if_pos rfl, if_pos rfl, hot_bat H.1.2.2.1 nC (Nat.le_refl _)]
    have a := hr_to hL ho H nG (Nat.le_refl _)
    have e8 : (fun b => decide (b < nG) && offP nG h ob s nC b) = offP nG h ob s nC := by
      funext b
      by_cases hb : b < nG
      · simp [hb]
      · unfold offP; simp [hb]
    rw [e8] at a
    exact a
end REL3

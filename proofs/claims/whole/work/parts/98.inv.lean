/-! ===== the two sides' states, and what holds of each ===== -/
/-- goes, unused, price, when guests wake -/
abbrev SNP : Type := Nat × Nat × Nat × (Nat → Nat)
/-- an image: these, the day, changes -/
abbrev IMG : Type := SNP × Nat × Nat × (Nat → SNP)
abbrev AS : Type := PD × (Nat → HBt) × (Nat → Bool) × (Nat × (Nat → Nat → Nat)) × Nat × (Nat × (Nat → SNP)) × (Nat × (Nat → IMG)) × (Nat × (Nat → Int32)) × Int32 × (Nat → Int32)
abbrev aP (A : AS) : PD := A.1
abbrev aH (A : AS) : (Nat → HBt) := A.2.1
abbrev aK (A : AS) : (Nat → Bool) := A.2.2.1
abbrev aBn (A : AS) : Nat := A.2.2.2.1.1
abbrev aB (A : AS) : (Nat → Nat → Nat) := A.2.2.2.1.2
abbrev aD (A : AS) : Nat := A.2.2.2.2.1
abbrev aCn (A : AS) : Nat := A.2.2.2.2.2.1.1
abbrev aC (A : AS) : (Nat → SNP) := A.2.2.2.2.2.1.2
abbrev aIn (A : AS) : Nat := A.2.2.2.2.2.2.1.1
abbrev aI (A : AS) : (Nat → IMG) := A.2.2.2.2.2.2.1.2
abbrev aTn (A : AS) : Nat := A.2.2.2.2.2.2.2.1.1
abbrev aT (A : AS) : (Nat → Int32) := A.2.2.2.2.2.2.2.1.2
abbrev aL (A : AS) : Int32 := A.2.2.2.2.2.2.2.2.1
abbrev aR (A : AS) : (Nat → Int32) := A.2.2.2.2.2.2.2.2.2
abbrev aG (A : AS) : Nat := (aP A).2.1
def snP (P : PD) : SNP := (P.2.2.1, P.2.2.2.1, P.2.2.2.2.1, fun b => P.2.2.2.2.2.2 b 0)
def stP (P : PD) (s : SNP) : PD := (P.1, P.2.1, s.1, s.2.1, s.2.2.1, P.2.2.2.2.2.1, fun b j => if j = 0 then s.2.2.2 b else P.2.2.2.2.2.2 b j)
def okSn (nG : Nat) (s : SNP) : Prop := s.1 < 24 ∧ 1 ≤ s.2.1 ∧ s.2.1 < 24 ∧ s.2.2.1 < 100 ∧ ∀ b, b < nG → s.2.2.2 b < 24
def okIm (nG : Nat) (i : IMG) : Prop := okSn nG i.1 ∧ i.2.1 < 200 ∧ i.2.2.1 ≤ 20 ∧ ∀ k, k < i.2.2.1 → okSn nG (i.2.2.2 k)
def okAS (A : AS) : Prop := okPD (aP A) ∧ okH (aH A) ∧ okA (aH A) (aK A) ∧ okBk (aG A) (aBn A) (aB A) ∧ aD A < 200 ∧ aCn A ≤ 20 ∧ (∀ k, k < aCn A → okSn (aG A) (aC A k)) ∧ aIn A ≤ 3 ∧ (∀ k, k < aIn A → okIm (aG A) (aI A k)) ∧ aTn A ≤ 600 ∧ (∀ k, k < aTn A → ¬ aT A k = -1)
/-- the reference -/
def rfSn (m : pMI) (R o nG : Nat) (s : SNP) : Prop := m R o = nI s.1 ∧ m R (o + 1) = nI s.2.1 ∧ m R (o + 2) = nI s.2.2.1 ∧ ∀ b, b < nG → m R (o + 3 + b) = nI (s.2.2.2 b)
def rfIm (m : pMI) (R nG : Nat) (i : IMG) : Prop := rfSn m R 0 nG i.1 ∧ m R 11 = nI i.2.1 ∧ m R 12 = nI i.2.2.1 ∧ ∀ k, k < i.2.2.1 → rfSn m R (13 + 11 * k) nG (i.2.2.2 k)
def RI (A : AS) (m : pMI) : Prop := rfP m (aP A) ∧ rfHb m (aH A) ∧ (∀ b, b < 8 → m 193 b = bI (aK A b)) ∧ (m 87 28 = nI (aBn A) ∧ ∀ k, k < aBn A → ∀ q, q < 3 → m (143 + k) q = nI (aB A k q)) ∧ m 87 29 = nI (aD A) ∧ (m 87 30 = nI (aCn A) ∧ ∀ k, k < aCn A → rfSn m (169 + k) 0 (aG A) (aC A k)) ∧ (m 87 31 = nI (aIn A) ∧ ∀ k, k < aIn A → rfIm m (190 + k) (aG A) (aI A k)) ∧ (m 87 1 = nI (aTn A) ∧ ∀ k, k < aTn A → m 88 k = aT A k) ∧ m 87 3 = aL A ∧ (∀ j, j < 3 → m 89 j = aR A j)
/-- the component's row of a change: what undoes it -/
def chK (nG : Nat) (k a b : Int32) (s nx : SNP) : Prop :=
  (k = nI 0 ∧ a = nI s.1 ∧ b = nI s.2.1 ∧ nx.2.2.1 = s.2.2.1 ∧ ∀ c, c < nG → nx.2.2.2 c = s.2.2.2 c) ∨
  (k = nI 1 ∧ a = nI s.2.2.1 ∧ b = nI 0 ∧ nx.1 = s.1 ∧ nx.2.1 = s.2.1 ∧ ∀ c, c < nG → nx.2.2.2 c = s.2.2.2 c) ∨
  (k = nI 2 ∧ ∃ x, x < nG ∧ a = nI x ∧ b = nI (s.2.2.2 x) ∧ nx.1 = s.1 ∧ nx.2.1 = s.2.1 ∧ nx.2.2.1 = s.2.2.1 ∧ ∀ c, c < nG → c ≠ x → nx.2.2.2 c = s.2.2.2 c)
def chR (m : pMI) (R nG n : Nat) (sn : Nat → SNP) (cur : SNP) : Prop := ∀ k, k < n → chK nG (m R (k * 3)) (m R (k * 3 + 1)) (m R (k * 3 + 2)) (sn k) (if k + 1 = n then cur else sn (k + 1))
def imC (m : pMI) (q nG : Nat) (i : IMG) : Prop := m q 2 = nI i.2.2.1 ∧ m q 3 = nI i.1.1 ∧ m q 4 = nI i.1.2.1 ∧ m q 5 = nI i.1.2.2.1 ∧ m q 6 = nI i.2.1 ∧ (∀ b, b < nG → m (q + 1) b = nI (i.1.2.2.2 b)) ∧ chR m (q + 2) nG i.2.2.1 i.2.2.2 i.1
/-- cells made later: images, stillness -/
def ShI (g : pGG) (q : Nat) : Prop := g.2.1 q = (7, 0) ∧ g.2.1 (q + 1) = (20, 8) ∧ g.2.1 (q + 2) = (20, 60) ∧ g.2.2 q 0 = some (q + 1) ∧ g.2.2 q 1 = some (q + 2)
def ShS (g : pGG) (s : Nat) : Prop := g.2.1 s = (9, 0) ∧ g.2.1 (s + 1) = (20, 2048) ∧ g.2.1 (s + 2) = (20, 2048) ∧ g.2.1 (s + 3) = (20, 8) ∧ g.2.2 s 0 = some 3 ∧ g.2.2 s 1 = some 67 ∧ g.2.2 s 2 = some (s + 1) ∧ g.2.2 s 3 = some (s + 2) ∧ g.2.2 s 4 = some (s + 3)
def DYN (g : pGG) (im st : Nat) (qi : Nat → Nat) (si : Nat) : Prop := im ≤ 3 ∧ st ≤ 1 ∧ 451 ≤ g.1 ∧ g.1 ≤ 451 + 3 * im + 4 * st ∧ (∀ k, k < 3 → im ≤ k → g.2.2 83 k = none) ∧ (∀ k, k < im → g.2.2 83 k = some (qi k) ∧ ShI g (qi k) ∧ 451 ≤ qi k ∧ qi k + 3 ≤ g.1) ∧ (∀ j k, j < k → k < im → qi j + 3 ≤ qi k) ∧ (st = 0 → g.2.2 0 16 = none) ∧ (st = 1 → g.2.2 0 16 = some si ∧ ShS g si ∧ 451 ≤ si ∧ si + 4 ≤ g.1 ∧ ∀ k, k < im → qi k + 3 ≤ si ∨ si + 4 ≤ qi k)
/-- mornings told as numbers; still ones -/
def stp (nG n b : Nat) : Nat := n ^ (nG - 1 - b)
def cmQ (nG n q b : Nat) : Nat := q / stp nG n b % n
def nqP (P : PD) (n q b : Nat) : Int32 := netM (wD (DY P (cmQ P.2.1 n q) id id P.2.2.2.1)) b
def stB (P : PD) (n q : Nat) : Bool := !anB (fun b => anB (fun h => !decide (nqP P n (q - cmQ P.2.1 n q b * stp P.2.1 n b + h * stp P.2.1 n b) b ≤ nqP P n q b)) n) P.2.1
def dgQ (nG n q : Nat) : Nat → Nat
  | 0 => 0
  | k + 1 => 10 * dgQ nG n q k + cmQ nG n q k
def stM (P : PD) (n : Nat) : Int32 := nI (cN (stB P n) (n ^ P.2.1))
def stF (P : PD) (n : Nat) : Int32 := oI ((fE (stB P n) (n ^ P.2.1)).map (fun q => dgQ P.2.1 n q P.2.1))
def DYd (A : AS) : DS := DY (aP A) (mrn (aP A) (aH A) (aD A)) id id (aP A).2.2.2.1
def CIx (A : AS) (g : pGG) (m : pMI) (l : pML) (r im st : Nat) (qi : Nat → Nat) (si : Nat) : Prop :=
  Sh g ∧ DOK (aP A) (aH A) id (aK A) 27 r m l ∧ (m 24 2 = nI (aBn A) ∧ ∀ k, k < aBn A → ∀ q, q < 3 → m 25 (k * 3 + q) = nI (aB A k q)) ∧ m 0 18 = nI (aD A) ∧
  (m 81 2 = nI (aCn A) ∧ chR m 82 (aG A) (aCn A) (aC A) (snP (aP A))) ∧ (m 81 3 = nI (aIn A) ∧ aIn A ≤ im ∧ ∀ k, k < aIn A → imC m (qi k) (aG A) (aI A k)) ∧
  (m 0 17 = nI (aTn A) ∧ ∀ k, k < aTn A → m 1 k = aT A k) ∧ (m 2 4 = aL A ∧ ∀ j, j < 3 → m 86 j = aR A j) ∧
  (m 0 19 = nI 0 ∨ (m 0 19 = nI 1 ∧ CDY m 57 (aP A) (mrn (aP A) (aH A) (aD A)) (DYd A))) ∧
  (m 57 10 = nI 1 ∧ (∀ i, i < 8 → m 63 i = nI i) ∧ m 67 10 = nI 0 ∧ (∀ b, b < 8 → m 43 b = nI b) ∧ m 47 10 = nI 0 ∧ (∀ i, i < 8 → m 53 i = nI i)) ∧
  (m 77 4 = nI 0 ∨ (m 77 4 = nI 1 ∧ GOK (aP A) m)) ∧ DYN g im st qi si ∧
  (st = 1 → ∃ fo, m si 5 = nI fo ∧ (fo = 0 ∨ (2 ≤ fo ∧ fo ≤ 8 ∧ aG A ≤ 4 ∧ m si 6 = stM (aP A) fo ∧ m si 7 = stF (aP A) fo)))
def CI (A : AS) (g : pGG) (m : pMI) (l : pML) : Prop := ∃ r im st qi si, CIx A g m l r im st qi si
/-- a call's end on either side: an answer, or the reason of a refusal (0 no such element, 1 argument, 2 state) -/
def xE (j : Nat) : String := match j with
  | 0 => xNSE
  | 1 => xIAE
  | _ => xISE
def rfA (A : AS) (j : Nat) : AS := (A.1, A.2.1, A.2.2.1, A.2.2.2.1, A.2.2.2.2.1, A.2.2.2.2.2.1, A.2.2.2.2.2.2.1, A.2.2.2.2.2.2.2.1, A.2.2.2.2.2.2.2.2.1, fun i => if i = j then aR A j + nI 1 else aR A i)
def frK (m x : pMI) : Prop := ∀ i, 87 ≤ i → i < 451 → x i = m i
def frM2 (m x : pMI) : Prop := ∀ i, (i < 87 ∨ 450 ≤ i) → x i = m i
abbrev OUT : Type := Int32 ⊕ Nat
def oC (x : OUT) : Option Value ⊕ String := match x with
  | .inl v => .inl (some (.int v))
  | .inr j => .inr (xE j)
def CQ (A : AS) (x : OUT) (m : pMI) (l : pML) : pQ := fun o g' m' l' => o = oC x ∧ CI A g' m' l' ∧ frK m m' ∧ l' 450 = l 450
def RQ (A : AS) (x : OUT) (cd : Nat → Nat) (g : pGG) (m : pMI) (l : pML) : pQ := fun o g' m' l' => g' = g ∧ l' = l ∧ RI A m' ∧ frM2 m m' ∧ ∃ v, o = .inl (some (.int v)) ∧ match x with
  | .inl w => v = w ∧ m' 87 0 = nI 0
  | .inr j => m' 87 0 = nI (cd j)
/-- a method of both sides is answered alike -/
def MOK (MC MR : pMD) (cd : Nat → Nat) (as : List Value) (A : AS) : Prop := ∃ x A', okAS A' ∧ (∀ j, x = .inr j → j < 3 ∧ ¬ cd j = 0) ∧
  (∀ (Γ : pTG) (g : pGG) (m : pMI) (l : pML), CI A g m l → CT Γ 60 20 5000 MC (.ref 0 :: as) g m l (CQ A' x m l)) ∧
  (∀ (Γ : pTG) (g : pGG) (m : pMI) (l : pML), Sh g → RI A m → CT Γ 60 0 0 MR (.ref 87 :: as) g m l (RQ A' x cd g m l))
def cdN (_ : Nat) : Nat := 0
def cd0 (j : Nat) : Nat := if j = 0 then 1 else 0
def cd1 (j : Nat) : Nat := if j = 1 then 1 else 0
def cd2 (j : Nat) : Nat := if j = 0 then 1 else if j = 1 then 2 else 0
def cd3 (j : Nat) : Nat := if j = 1 then 1 else if j = 2 then 2 else 0
theorem CI_Sh {A : AS} {g : pGG} {m : pMI} {l : pML} (h : CI A g m l) : Sh g := by obtain ⟨_, _, _, _, _, h, _⟩ := h; exact h
theorem CI_cl {A : AS} {g : pGG} {m : pMI} {l : pML} (h : CI A g m l) : clP m (aP A) := by obtain ⟨_, _, _, _, _, _, h, _⟩ := h; exact h.1
/-- rows that are free between calls -/
def scR (i : Nat) : Prop := (10 ≤ i ∧ i ≤ 16) ∨ (20 ≤ i ∧ i ≤ 23) ∨ i = 26 ∨ i = 29 ∨ i = 42 ∨ i = 44 ∨ i = 46 ∨ (48 ≤ i ∧ i ≤ 56 ∧ i ≠ 53) ∨ (68 ≤ i ∧ i ≤ 76) ∨ i = 79 ∨ i = 84 ∨ i = 85
def frS (m x : pMI) : Prop := (∀ i, (i < 87 ∨ 451 ≤ i) → ¬ scR i → i ≠ 17 → i ≠ 2 → i ≠ 47 → i ≠ 67 → x i = m i) ∧ (∀ j, j ≠ 4 → x 17 j = m 17 j) ∧ x 2 4 = m 2 4 ∧ x 47 10 = m 47 10 ∧ x 67 10 = m 67 10
theorem frS_r {m : pMI} : frS m m := ⟨fun _ _ _ _ _ _ _ => rfl, fun _ _ => rfl, rfl, rfl, rfl⟩
theorem frS_t {a b c : pMI} (h1 : frS a b) (h2 : frS b c) : frS a c := ⟨fun i p q r s t u => (h2.1 i p q r s t u).trans (h1.1 i p q r s t u), fun j hj => (h2.2.1 j hj).trans (h1.2.1 j hj), h2.2.2.1.trans h1.2.2.1, h2.2.2.2.1.trans h1.2.2.2.1, h2.2.2.2.2.trans h1.2.2.2.2⟩
theorem DOK_row {P : PD} {H : Nat → HBt} {wh : Nat → Nat} {ask : Nat → Bool} {r : Nat} {m x : pMI} {l l' : pML} (h : DOK P H wh ask 27 r m l) (hx : ∀ i, (3 ≤ i ∧ i ≤ 9) ∨ i = 18 ∨ i = 19 ∨ i = 27 ∨ i = 28 ∨ (31 ≤ i ∧ i ≤ 41) → x i = m i) (h17 : x 17 5 = m 17 5) (hl : l' 30 = l 30) : DOK P H wh ask 27 r x l' := by
  obtain ⟨h1, h2, h3, h4, h5, h6, h7, h8, h9, rd, f, a1, a2, a3, a4⟩ := h
  refine ⟨clP_row (fun i p q => hx i (by omega)) h1, clHb_row (hx 18 (by omega)) (hx 19 (by omega)) h2, h17.trans h3, fun b hb => by rw [hx 28 (by omega)]; exact h4 b hb, fun i hi => by rw [hx 38 (by omega)]; exact h5 i hi, by rw [hx 32 (by omega)]; exact h6, by rw [hx 27 (by omega)]; exact h7, h8, fun d hd => by rw [hl, hx 31 (by omega)]; exact h9 d hd, rd, f, by rw [hx 27 (by omega)]; exact a1, a2, fun q => ⟨fun q2 => cdy_row (hx 33 (by omega)) (hx 34 (by omega)) (by rw [hx 32 (by omega)]) (hx 40 (by omega)) (hx 41 (by omega)) ((a3 q).1 q2), (a3 q).2⟩, fun q => by rw [hx 27 (by omega)]; exact a4 q⟩
theorem chR_row {m x : pMI} {R nG n : Nat} {sn : Nat → SNP} {cur : SNP} (h : chR m R nG n sn cur) (hx : x R = m R) : chR x R nG n sn cur := fun k hk => by rw [hx]; exact h k hk
theorem imC_row {m x : pMI} {q nG : Nat} {i : IMG} (h : imC m q nG i) (h0 : x q = m q) (h1 : x (q + 1) = m (q + 1)) (h2 : x (q + 2) = m (q + 2)) : imC x q nG i := by
  obtain ⟨a1, a2, a3, a4, a5, a6, a7⟩ := h
  exact ⟨by rw [h0]; exact a1, by rw [h0]; exact a2, by rw [h0]; exact a3, by rw [h0]; exact a4, by rw [h0]; exact a5, fun b hb => by rw [h1]; exact a6 b hb, chR_row a7 h2⟩
theorem GOK_row {P : PD} {m x : pMI} (h : GOK P m) (h7 : x 77 5 = m 77 5) (h8 : x 78 = m 78) (h80 : x 80 = m 80) : GOK P x := ⟨fun b hb c hc => by rw [h8]; exact h.1 b hb c hc, h7.trans h.2.1, fun b hb => by rw [h80]; exact h.2.2 b hb⟩
theorem CI_fr {A : AS} {g : pGG} {m x : pMI} {l l' : pML} (h : CI A g m l) (hx : frS m x) (hl : l' 30 = l 30) : CI A g x l' := by
  obtain ⟨r, im, st, qi, si, c1, c2, c3, c4, c5, c6, c7, c8, c9, c10, c11, c12, c13⟩ := h
  obtain ⟨f1, f2, f3, f4, f5⟩ := hx
  have e : ∀ i, (i < 87 ∨ 451 ≤ i) → ¬ scR i → i ≠ 17 → i ≠ 2 → i ≠ 47 → i ≠ 67 → x i = m i := f1
  have e0 : ∀ i, i = 0 ∨ i = 1 ∨ (3 ≤ i ∧ i ≤ 9) ∨ i = 18 ∨ i = 19 ∨ i = 24 ∨ i = 25 ∨ i = 27 ∨ i = 28 ∨ (30 ≤ i ∧ i ≤ 41) ∨ i = 43 ∨ i = 53 ∨ (57 ≤ i ∧ i ≤ 66) ∨ i = 77 ∨ i = 78 ∨ (80 ≤ i ∧ i ≤ 83) ∨ i = 86 ∨ 451 ≤ i → x i = m i := fun i hi => e i (by omega) (by unfold scR; omega) (by omega) (by omega) (by omega) (by omega)
  refine ⟨r, im, st, qi, si, c1, DOK_row c2 (fun i hi => e0 i (by omega)) (f2 5 (by omega)) hl, ?_, ?_, ?_, ?_, ?_, ?_, ?_, ?_, ?_, c12, ?_⟩
  · rw [e0 24 (by omega), e0 25 (by omega)]; exact c3
  · rw [e0 0 (by omega)]; exact c4
  · rw [e0 81 (by omega)]; exact ⟨c5.1, chR_row c5.2 (e0 82 (by omega))⟩
  · rw [e0 81 (by omega)]
    refine ⟨c6.1, c6.2.1, fun k hk => ?_⟩
    have := (c12.2.2.2.2.2.1 k (Nat.lt_of_lt_of_le hk c6.2.1)).2.2.1
    exact imC_row (c6.2.2 k hk) (e0 _ (by omega)) (e0 _ (by omega)) (e0 _ (by omega))
  · rw [e0 0 (by omega), e0 1 (by omega)]; exact c7
  · rw [f3, e0 86 (by omega)]; exact c8
  · rw [e0 0 (by omega)]
    rcases c9 with q | ⟨q1, q2⟩
    · exact Or.inl q
    · exact Or.inr ⟨q1, cdy_row (e0 58 (by omega)) (e0 59 (by omega)) (by rw [e0 57 (by omega)]) (e0 65 (by omega)) (e0 66 (by omega)) q2⟩
  · rw [e0 57 (by omega), e0 63 (by omega), f5, e0 43 (by omega), f4, e0 53 (by omega)]; exact c10
  · rw [e0 77 (by omega)]
    rcases c11 with q | ⟨q1, q2⟩
    · exact Or.inl q
    · exact Or.inr ⟨q1, GOK_row q2 (by rw [e0 77 (by omega)]) (e0 78 (by omega)) (e0 80 (by omega))⟩
  · intro hst
    have := (c12.2.2.2.2.2.2.2.2 hst).2.2.1
    rw [e0 si (by omega)]
    exact c13 hst
theorem CI_rf {A : AS} {g : pGG} {m : pMI} {l : pML} {j : Nat} (hj : j < 3) (h : CI A g m l) : CI (rfA A j) g (up2 m 86 j (m 86 j + nI 1)) l := by
  obtain ⟨r, im, st, qi, si, c1, c2, c3, c4, c5, c6, c7, c8, c9, c10, c11, c12, c13⟩ := h
  have e : ∀ i, i ≠ 86 → up2 m 86 j (m 86 j + nI 1) i = m i := fun i hi => up2_row hi
  refine ⟨r, im, st, qi, si, c1, DOK_row c2 (fun i hi => e i (by omega)) (by rw [e 17 (by omega)]) rfl, ?_, ?_, ?_, ?_, ?_, ?_, ?_, ?_, ?_, c12, ?_⟩
  · rw [e 24 (by omega), e 25 (by omega)]; exact c3
  · rw [e 0 (by omega)]; exact c4
  · rw [e 81 (by omega)]; exact ⟨c5.1, chR_row c5.2 (e 82 (by omega))⟩
  · rw [e 81 (by omega)]
    refine ⟨c6.1, c6.2.1, fun k hk => ?_⟩
    have := (c12.2.2.2.2.2.1 k (Nat.lt_of_lt_of_le hk c6.2.1)).2.2.1
    exact imC_row (c6.2.2 k hk) (e _ (by omega)) (e _ (by omega)) (e _ (by omega))
  · rw [e 0 (by omega), e 1 (by omega)]; exact c7
  · rw [e 2 (by omega)]
    refine ⟨c8.1, fun i hi => ?_⟩
    show up2 m 86 j (m 86 j + nI 1) 86 i = if i = j then aR A j + nI 1 else aR A i
    by_cases q : i = j
    · rw [if_pos q, q, up2_s, c8.2 j hj]
    · rw [if_neg q, up2_n q]; exact c8.2 i hi
  · rw [e 0 (by omega)]
    rcases c9 with q | ⟨q1, q2⟩
    · exact Or.inl q
    · exact Or.inr ⟨q1, cdy_row (e 58 (by omega)) (e 59 (by omega)) (by rw [e 57 (by omega)]) (e 65 (by omega)) (e 66 (by omega)) q2⟩
  · rw [e 57 (by omega), e 63 (by omega), e 67 (by omega), e 43 (by omega), e 47 (by omega), e 53 (by omega)]; exact c10
  · rw [e 77 (by omega)]
    rcases c11 with q | ⟨q1, q2⟩
    · exact Or.inl q
    · exact Or.inr ⟨q1, GOK_row q2 (by rw [e 77 (by omega)]) (e 78 (by omega)) (e 80 (by omega))⟩
  · intro hst
    have := (c12.2.2.2.2.2.2.2.2 hst).2.2.1
    rw [e si (by omega)]
    exact c13 hst
/-- the reference's rows that are free between calls -/
def rsR (i : Nat) : Prop := i = 90 ∨ (93 ≤ i ∧ i ≤ 100) ∨ (112 ≤ i ∧ i ≤ 119) ∨ (130 ≤ i ∧ i ≤ 132) ∨ (156 ≤ i ∧ i ≤ 167) ∨ (194 ≤ i ∧ i ≤ 449)
def rsF (j : Nat) : Prop := j = 0 ∨ j = 2 ∨ (4 ≤ j ∧ j ≤ 8) ∨ j = 27 ∨ j = 32 ∨ j = 33 ∨ j = 53 ∨ j = 60
def frW (m x : pMI) : Prop := (∀ i, 88 ≤ i → i < 450 → ¬ rsR i → x i = m i) ∧ (∀ j, ¬ rsF j → x 87 j = m 87 j)
theorem frW_r {m : pMI} : frW m m := ⟨fun _ _ _ _ => rfl, fun _ _ => rfl⟩
theorem frW_t {a b c : pMI} (h1 : frW a b) (h2 : frW b c) : frW a c := ⟨fun i p q r => (h2.1 i p q r).trans (h1.1 i p q r), fun j hj => (h2.2 j hj).trans (h1.2 j hj)⟩
theorem rfSn_row {m x : pMI} {R o nG : Nat} {s : SNP} (h : rfSn m R o nG s) (hx : x R = m R) : rfSn x R o nG s := by unfold rfSn; rw [hx]; exact h
theorem rfIm_row {m x : pMI} {R nG : Nat} {i : IMG} (h : rfIm m R nG i) (hx : x R = m R) : rfIm x R nG i := ⟨rfSn_row h.1 hx, by rw [hx]; exact h.2.1, by rw [hx]; exact h.2.2.1, fun k hk => rfSn_row (h.2.2.2 k hk) hx⟩
theorem rfP_w {m x : pMI} {P : PD} (hP : okPD P) (h : rfP m P) (hx : ∀ i, i = 91 ∨ (102 ≤ i ∧ i ≤ 109) ∨ (121 ≤ i ∧ i ≤ 128) → x i = m i) : rfP x P := by
  obtain ⟨h1, h2, h3, h4, h5, h6, h7⟩ := h
  have p1 := hP.1
  have p2 := hP.2.1
  rw [← hx 91 (by omega)] at h1 h2 h3 h4 h5
  exact ⟨h1, h2, h3, h4, h5, fun c hc => by rw [hx (102 + c) (by omega)]; exact h6 c hc, fun b hb => by rw [hx (121 + b) (by omega)]; exact h7 b hb⟩
theorem rfHb_w {m x : pMI} {H : Nat → HBt} (h : rfHb m H) (hx : ∀ i, i = 129 ∨ (134 ≤ i ∧ i ≤ 141) → x i = m i) : rfHb x H := fun o ho => by
  rw [hx 129 (by omega), hx (134 + o) (by omega)]; exact h o ho
theorem RI_fr {A : AS} {m x : pMI} (hA : okAS A) (h : RI A m) (hx : frW m x) : RI A x := by
  obtain ⟨r1, r2, r3, r4, r5, r6, r7, r8, r9, r10⟩ := h
  obtain ⟨f1, f2⟩ := hx
  have a1 := hA.2.2.2.1.1
  have a2 := hA.2.2.2.2.2.1
  have a3 := hA.2.2.2.2.2.2.2.1
  have e : ∀ i, i = 88 ∨ i = 89 ∨ i = 91 ∨ (102 ≤ i ∧ i ≤ 110) ∨ (121 ≤ i ∧ i ≤ 129) ∨ (134 ≤ i ∧ i ≤ 154) ∨ (169 ≤ i ∧ i ≤ 193) → x i = m i := fun i hi => f1 i (by omega) (by omega) (by unfold rsR; omega)
  have e7 : ∀ j, j = 1 ∨ j = 3 ∨ (28 ≤ j ∧ j ≤ 31) → x 87 j = m 87 j := fun j hj => f2 j (by unfold rsF; omega)
  exact ⟨rfP_w hA.1 r1 (fun i hi => e i (by omega)), rfHb_w r2 (fun i hi => e i (by omega)), fun b hb => by rw [e 193 (by omega)]; exact r3 b hb, ⟨(e7 28 (by omega)).trans r4.1, fun k hk q hq => by rw [e (143 + k) (by omega)]; exact r4.2 k hk q hq⟩, (e7 29 (by omega)).trans r5, ⟨(e7 30 (by omega)).trans r6.1, fun k hk => rfSn_row (r6.2 k hk) (e _ (by omega))⟩, ⟨(e7 31 (by omega)).trans r7.1, fun k hk => rfIm_row (r7.2 k hk) (e _ (by omega))⟩, ⟨(e7 1 (by omega)).trans r8.1, fun k hk => by rw [e 88 (by omega)]; exact r8.2 k hk⟩, (e7 3 (by omega)).trans r9, fun j hj => by rw [e 89 (by omega)]; exact r10 j hj⟩
theorem RI_rf {A : AS} {m : pMI} {w j : Nat} (hA : okAS A) (hj : j < 3) (h : RI A m) : RI (rfA A j) (mB m w j) := by
  obtain ⟨r1, r2, r3, r4, r5, r6, r7, r8, r9, r10⟩ := h
  have a1 := hA.2.2.2.1.1
  have a2 := hA.2.2.2.2.2.1
  have a3 := hA.2.2.2.2.2.2.2.1
  have e : ∀ i, i ≠ 87 → i ≠ 89 → mB m w j i = m i := fun i h1 h2 => by unfold mB mT; rw [up2_row h2, up2_row h1, up2_row h1]
  have e7 : ∀ k, k ≠ 0 → mB m w j 87 k = m 87 k := fun k hk => by unfold mB mT; rw [up2_row (by omega), up2_n hk, up2_n hk]
  refine ⟨rfP_w hA.1 r1 (fun i hi => e i (by omega) (by omega)), rfHb_w r2 (fun i hi => e i (by omega) (by omega)), fun b hb => by rw [e 193 (by omega) (by omega)]; exact r3 b hb, ⟨(e7 28 (by omega)).trans r4.1, fun k hk q hq => by rw [e (143 + k) (by omega) (by omega)]; exact r4.2 k hk q hq⟩, (e7 29 (by omega)).trans r5, ⟨(e7 30 (by omega)).trans r6.1, fun k hk => rfSn_row (r6.2 k hk) (e _ (by omega) (by omega))⟩, ⟨(e7 31 (by omega)).trans r7.1, fun k hk => rfIm_row (r7.2 k hk) (e _ (by omega) (by omega))⟩, ⟨(e7 1 (by omega)).trans r8.1, fun k hk => by rw [e 88 (by omega) (by omega)]; exact r8.2 k hk⟩, (e7 3 (by omega)).trans r9, fun i hi => ?_⟩
  show mB m w j 89 i = if i = j then aR A j + nI 1 else aR A i
  unfold mB
  by_cases q : i = j
  · rw [if_pos q, q, up2_s, r10 j hj]
  · rw [if_neg q, up2_n q, up2_row (by omega)]
    unfold mT
    rw [up2_row (by omega)]
    exact r10 i hi
theorem ok_rf {A : AS} {j : Nat} (h : okAS A) : okAS (rfA A j) := h
theorem frK_86 {m : pMI} {j : Nat} {v : Int32} : frK m (up2 m 86 j v) := fun i h1 h2 => up2_row (by omega)
theorem fr2_B {m : pMI} {w j : Nat} : frM2 m (mB m w j) := fun i h => by unfold mB mT; rw [up2_row (by omega), up2_row (by omega), up2_row (by omega)]
theorem mB_0 {m : pMI} {w j : Nat} : mB m w j 87 0 = nI w := by unfold mB; rw [up2_row (by omega), up2_s]
theorem gd_iff {nG : Nat} (h : nG ≤ 8) {v : Int32} : (¬ v < 0 ∧ v < nI nG) ↔ ∃ b, b < nG ∧ v = nI b := by
  constructor
  · intro ⟨h1, h2⟩
    obtain ⟨b, hb, rfl⟩ := nI_of h1
    exact ⟨b, (nI_ltI hb (by omega)).mp h2, rfl⟩
  · intro ⟨b, hb, e⟩
    rw [e]
    exact ⟨nI_pos (by omega), nI_lt hb (by omega)⟩
theorem gd_ref {nG : Nat} (h : nG ≤ 8) {v : Int32} : (decide (nI 0 ≤ v) && decide (v ≤ nI nG - nI 1)) = true ↔ ∃ b, b < nG ∧ v = nI b := by
  rw [Bool.and_eq_true, decide_eq_true_eq, decide_eq_true_eq]
  constructor
  · intro ⟨h1, h2⟩
    obtain ⟨b, hb, rfl⟩ := nI_of (x := v) (Int32.not_lt.mpr h1)
    by_cases q : b ≤ 100000
    · exact ⟨b, ((hH_m h) b q).mp h2, rfl⟩
    · exact absurd (Int32.le_trans (nI_le (show 100000 ≤ b by omega) hb) h2) (fun z => by have := ((hH_m h) 100000 (by omega)).mp z; omega)
  · intro ⟨b, hb, e⟩
    rw [e]
    exact ⟨nI_pos' (by omega), ((hH_m h) b (by omega)).mpr hb⟩
theorem wi_iff {v : Int32} {a b : Nat} (ha : a < 2147483648) (hb : b < 2147483648) : (nI a ≤ v ∧ v ≤ nI b) ↔ ∃ k, a ≤ k ∧ k ≤ b ∧ v = nI k := by
  constructor
  · intro ⟨h1, h2⟩
    obtain ⟨k, hk, rfl⟩ := nI_of (x := v) (Int32.not_lt.mpr (Int32.le_trans (nI_pos' ha) h1))
    exact ⟨k, (nI_leI ha hk).mp h1, (nI_leI hk hb).mp h2, rfl⟩
  · intro ⟨k, h1, h2, e⟩
    rw [e]
    exact ⟨nI_le h1 (by omega), nI_le h2 hb⟩

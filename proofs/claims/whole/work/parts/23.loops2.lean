/-- as X_for, the end by the invariant alone -/
theorem X_for2 {Γ : pTG} {d k n : Nat} {M : pMD} {S : List Value} {g : pGG} {Q : pQ} {σ : Type} (head : Nat) (Lf : Nat → σ → List (Nat × Value)) (mf : σ → pMI) (lf : σ → pML) (f : Nat → σ → σ) (I : Nat → σ → Prop) (e : Nat)
    (hb : ∀ i s, i < e → I i s → I (i + 1) (f i s) ∧ (XW Γ d k n M head (Lf (i + 1) (f i s)) S g (mf (f i s)) (lf (f i s)) Q → XW Γ d k n M head (Lf i s) S g (mf s) (lf s) Q))
    (c i : Nat) (s : σ) (he : i + c = e) (h : I i s) (hx : ∀ s, I e s → XW Γ d k n M head (Lf e s) S g (mf s) (lf s) Q) : XW Γ d k n M head (Lf i s) S g (mf s) (lf s) Q :=
  X_for head Lf mf lf f I e hb c i s he h (hx _)
/-- a descending loop: its counter is i less 1 -/
theorem X_down {Γ : pTG} {d k n : Nat} {M : pMD} {S : List Value} {g : pGG} {Q : pQ} {σ : Type} (head : Nat) (Lf : Nat → σ → List (Nat × Value)) (mf : σ → pMI) (lf : σ → pML) (f : Nat → σ → σ) (I : Nat → σ → Prop)
    (hb : ∀ i s, I (i + 1) s → I i (f i s) ∧ (XW Γ d k n M head (Lf i (f i s)) S g (mf (f i s)) (lf (f i s)) Q → XW Γ d k n M head (Lf (i + 1) s) S g (mf s) (lf s) Q))
    (hx : ∀ s, I 0 s → XW Γ d k n M head (Lf 0 s) S g (mf s) (lf s) Q) : ∀ (i : Nat) (s : σ), I i s → XW Γ d k n M head (Lf i s) S g (mf s) (lf s) Q
  | 0, s, h => hx s h
  | i + 1, s, h => by
    obtain ⟨h1, h2⟩ := hb i s h
    exact h2 (X_down head Lf mf lf f I hb hx i (f i s) h1)
theorem nI_minJ {a b : Nat} (ha : a < 2147483648) (hb : b < 2147483648) : (if nI b < nI a then nI b else nI a) = nI (min a b) := by
  by_cases h : b < a
  · rw [if_pos ((nI_ltI hb ha).mpr h), Nat.min_eq_right (by omega)]
  · rw [if_neg (fun q => h ((nI_ltI hb ha).mp q)), Nat.min_eq_left (by omega)]
theorem nI_maxJ {a b : Nat} (ha : a < 2147483648) (hb : b < 2147483648) : (if nI a < nI b then nI b else nI a) = nI (max a b) := by
  by_cases h : a < b
  · rw [if_pos ((nI_ltI ha hb).mpr h), Nat.max_eq_right (by omega)]
  · rw [if_neg (fun q => h ((nI_ltI ha hb).mp q)), Nat.max_eq_left (by omega)]

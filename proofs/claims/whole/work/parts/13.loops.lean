/-! ===== loops over the pure layer ===== -/
/-- n turns of f from i on -/
def lpS {σ : Type} (f : Nat → σ → σ) : Nat → Nat → σ → σ
  | _, 0, s => s
  | i, n + 1, s => lpS f (i + 1) n (f i s)
theorem lpS_snoc {σ : Type} (f : Nat → σ → σ) : ∀ (n i : Nat) (s : σ), lpS f i (n + 1) s = f (i + n) (lpS f i n s)
  | 0, i, s => rfl
  | n + 1, i, s => by
    show lpS f (i + 1) (n + 1) (f i s) = _
    rw [lpS_snoc f n (i + 1) (f i s)]
    rw [show i + 1 + n = i + (n + 1) by omega]
    rfl
theorem lpS_inv {σ : Type} {f : Nat → σ → σ} (I : Nat → σ → Prop) {e : Nat} (hs : ∀ i s, i < e → I i s → I (i + 1) (f i s)) : ∀ (n i : Nat) (s : σ), i + n ≤ e → I i s → I (i + n) (lpS f i n s)
  | 0, i, s, _, h => h
  | n + 1, i, s, hn, h => by
    rw [show i + (n + 1) = (i + 1) + n by omega]
    exact lpS_inv I hs n (i + 1) (f i s) (by omega) (hs i s (by omega) h)
theorem lpS_congr {σ : Type} {f h : Nat → σ → σ} (I : Nat → σ → Prop) {e : Nat} (hs : ∀ i s, i < e → I i s → I (i + 1) (f i s)) (he : ∀ i s, i < e → I i s → f i s = h i s) : ∀ (n i : Nat) (s : σ), i + n ≤ e → I i s → lpS f i n s = lpS h i n s
  | 0, i, s, _, _ => rfl
  | n + 1, i, s, hn, hI => by
    show lpS f (i + 1) n (f i s) = lpS h (i + 1) n (h i s)
    rw [← he i s (by omega) hI]
    exact lpS_congr I hs he n (i + 1) (f i s) (by omega) (hs i s (by omega) hI)
section LOOPS
variable {Γ : pTG} {d k n : Nat} {M : pMD} {S : List Value} {g : pGG} {Q : pQ}
/-- an ascending loop without an early end: its state s, its counter i, up to e -/
theorem X_for {σ : Type} (head : Nat) (Lf : Nat → σ → List (Nat × Value)) (mf : σ → pMI) (lf : σ → pML) (f : Nat → σ → σ) (I : Nat → σ → Prop) (e : Nat)
    (hb : ∀ i s, i < e → I i s → I (i + 1) (f i s) ∧ (XW Γ d k n M head (Lf (i + 1) (f i s)) S g (mf (f i s)) (lf (f i s)) Q → XW Γ d k n M head (Lf i s) S g (mf s) (lf s) Q)) :
    ∀ (c i : Nat) (s : σ), i + c = e → I i s → (I e (lpS f i c s) → XW Γ d k n M head (Lf e (lpS f i c s)) S g (mf (lpS f i c s)) (lf (lpS f i c s)) Q) → XW Γ d k n M head (Lf i s) S g (mf s) (lf s) Q
  | 0, i, s, he, h, hx => by
    have : i = e := by omega
    subst this
    exact hx h
  | c + 1, i, s, he, h, hx => by
    obtain ⟨h1, h2⟩ := hb i s (by omega) h
    exact h2 (X_for head Lf mf lf f I e hb c (i + 1) (f i s) (by omega) h1 hx)
/-- any loop: a measure that falls -/
theorem X_while {σ : Type} (head : Nat) (Lf : σ → List (Nat × Value)) (mf : σ → pMI) (lf : σ → pML) (I : σ → Prop) (μ : σ → Nat)
    (hb : ∀ s, I s → (∀ s', I s' → μ s' < μ s → XW Γ d k n M head (Lf s') S g (mf s') (lf s') Q) → XW Γ d k n M head (Lf s) S g (mf s) (lf s) Q) (s : σ) (h : I s) : XW Γ d k n M head (Lf s) S g (mf s) (lf s) Q := by
  generalize hm : μ s = m
  induction m using Nat.strongRecOn generalizing s with
  | ind m ih =>
    subst hm
    exact hb s h (fun s' h' hlt => ih (μ s') hlt s' h' rfl)
end LOOPS

/-! ===== contracts that tell what holds behind a call ===== -/
def rV (Γ : pTG) (d : Nat) (M : pMD) (as : List Value) (g : pGG) (mi : pMI) (ml : pML) (R : pMI → pML → Prop) : Prop := CT Γ d 0 0 M as g mi ml (fun o g' m' l' => o = .inl none ∧ g' = g ∧ R m' l')
def rI (Γ : pTG) (d : Nat) (M : pMD) (as : List Value) (g : pGG) (mi : pMI) (ml : pML) (R : Int32 → pMI → pML → Prop) : Prop := CT Γ d 0 0 M as g mi ml (fun o g' m' l' => g' = g ∧ ∃ v, o = .inl (some (.int v)) ∧ R v m' l')
def qrV (g : pGG) (R : pMI → pML → Prop) : pQ := fun o g' m' l' => o = .inl none ∧ g' = g ∧ R m' l'
def qrI (g : pGG) (R : Int32 → pMI → pML → Prop) : pQ := fun o g' m' l' => g' = g ∧ ∃ v, o = .inl (some (.int v)) ∧ R v m' l'
theorem rV_of {Γ : pTG} {d : Nat} {M : pMD} {as : List Value} {g : pGG} {mi : pMI} {ml : pML} {R : pMI → pML → Prop} (hy : plainName M.1.cls = true) (hl : (lg_sl as).length ≤ M.2.2.1) (h : XW Γ d 0 0 M 0 (lv_args 0 as) [] g mi ml (qrV g R)) : rV Γ d M as g mi ml R := CT_of hy hl h
theorem rI_of {Γ : pTG} {d : Nat} {M : pMD} {as : List Value} {g : pGG} {mi : pMI} {ml : pML} {R : Int32 → pMI → pML → Prop} (hy : plainName M.1.cls = true) (hl : (lg_sl as).length ≤ M.2.2.1) (h : XW Γ d 0 0 M 0 (lv_args 0 as) [] g mi ml (qrI g R)) : rI Γ d M as g mi ml R := CT_of hy hl h
theorem X_callVrV {Γ : pTG} {d k n : Nat} {M : pMD} {pc : Nat} {L : List (Nat × Value)} {S : List Value} {g : pGG} {mi : pMI} {ml : pML} {Q : pQ} {d' idx na : Nat} {o c z : Nat} {M' : pMD} {As S0 : List Value} {R : pMI → pML → Prop} (hd : decode M.2.1 pc = .ok (.invokevirtual idx, 3)) (hm : MLV M.1.cls idx M' c na) (hk : g.2.1 o = (c, z)) (hC : rV Γ d' M' (.ref o :: As) g mi ml R) (hS0 : S0 = As.reverse ++ .ref o :: S) (hA : As.length = na) (hd' : d' + 1 ≤ d) (hcat : (S.map (fun v => v.category)).sum ≤ 8) (kk : ∀ m' l', R m' l' → XW Γ d k n M (pc + 3) L S g m' l' Q) : XW Γ d k n M pc L S0 g mi ml Q :=
  X_callV hd hm hk hC hS0 hA hd' (Nat.zero_le _) (Nat.zero_le _) hcat (fun E _ _ _ h => by cases h.1) (fun v _ m' l' h => by obtain ⟨h1, rfl, h2⟩ := h; cases h1; exact kk m' l' h2)
theorem X_callVrI {Γ : pTG} {d k n : Nat} {M : pMD} {pc : Nat} {L : List (Nat × Value)} {S : List Value} {g : pGG} {mi : pMI} {ml : pML} {Q : pQ} {d' idx na : Nat} {o c z : Nat} {M' : pMD} {As S0 : List Value} {R : Int32 → pMI → pML → Prop} (hd : decode M.2.1 pc = .ok (.invokevirtual idx, 3)) (hm : MLV M.1.cls idx M' c na) (hk : g.2.1 o = (c, z)) (hC : rI Γ d' M' (.ref o :: As) g mi ml R) (hS0 : S0 = As.reverse ++ .ref o :: S) (hA : As.length = na) (hd' : d' + 1 ≤ d) (hcat : (S.map (fun v => v.category)).sum ≤ 8) (kk : ∀ v m' l', R v m' l' → XW Γ d k n M (pc + 3) L (.int v :: S) g m' l' Q) : XW Γ d k n M pc L S0 g mi ml Q :=
  X_callV hd hm hk hC hS0 hA hd' (Nat.zero_le _) (Nat.zero_le _) hcat (fun E _ _ _ h => by obtain ⟨_, w, h1, _⟩ := h; cases h1) (fun v _ m' l' h => by obtain ⟨rfl, w, h1, h2⟩ := h; cases h1; exact kk w m' l' h2)
theorem X_callSrV {Γ : pTG} {d k n : Nat} {M : pMD} {pc : Nat} {L : List (Nat × Value)} {S : List Value} {g : pGG} {mi : pMI} {ml : pML} {Q : pQ} {d' idx na : Nat} {M' : pMD} {As S0 : List Value} {R : pMI → pML → Prop} (hd : decode M.2.1 pc = .ok (.invokestatic idx, 3)) (hm : MLS M.1.cls idx M' na) (hC : rV Γ d' M' As g mi ml R) (hS0 : S0 = As.reverse ++ S) (hA : As.length = na) (hd' : d' + 1 ≤ d) (hcat : (S.map (fun v => v.category)).sum ≤ 8) (kk : ∀ m' l', R m' l' → XW Γ d k n M (pc + 3) L S g m' l' Q) : XW Γ d k n M pc L S0 g mi ml Q :=
  X_callS hd hm hC hS0 hA hd' (Nat.zero_le _) (Nat.zero_le _) hcat (fun E _ _ _ h => by cases h.1) (fun v _ m' l' h => by obtain ⟨h1, rfl, h2⟩ := h; cases h1; exact kk m' l' h2)
theorem X_callSrI {Γ : pTG} {d k n : Nat} {M : pMD} {pc : Nat} {L : List (Nat × Value)} {S : List Value} {g : pGG} {mi : pMI} {ml : pML} {Q : pQ} {d' idx na : Nat} {M' : pMD} {As S0 : List Value} {R : Int32 → pMI → pML → Prop} (hd : decode M.2.1 pc = .ok (.invokestatic idx, 3)) (hm : MLS M.1.cls idx M' na) (hC : rI Γ d' M' As g mi ml R) (hS0 : S0 = As.reverse ++ S) (hA : As.length = na) (hd' : d' + 1 ≤ d) (hcat : (S.map (fun v => v.category)).sum ≤ 8) (kk : ∀ v m' l', R v m' l' → XW Γ d k n M (pc + 3) L (.int v :: S) g m' l' Q) : XW Γ d k n M pc L S0 g mi ml Q :=
  X_callS hd hm hC hS0 hA hd' (Nat.zero_le _) (Nat.zero_le _) hcat (fun E _ _ _ h => by obtain ⟨_, w, h1, _⟩ := h; cases h1) (fun v _ m' l' h => by obtain ⟨rfl, w, h1, h2⟩ := h; cases h1; exact kk w m' l' h2)
theorem X_forR {Γ : pTG} {d k n : Nat} {M : pMD} {S : List Value} {g : pGG} {Q : pQ} {σ : Type} (head : Nat) (Lf : Nat → σ → List (Nat × Value)) (mf : σ → pMI) (lf : σ → pML) (I : Nat → σ → Prop) (e : Nat)
    (hb : ∀ i y, i < e → I i y → (∀ y', I (i + 1) y' → XW Γ d k n M head (Lf (i + 1) y') S g (mf y') (lf y') Q) → XW Γ d k n M head (Lf i y) S g (mf y) (lf y) Q)
    (hx : ∀ y, I e y → XW Γ d k n M head (Lf e y) S g (mf y) (lf y) Q) (c i : Nat) (y : σ) (he : i + c = e) (h0 : I i y) : XW Γ d k n M head (Lf i y) S g (mf y) (lf y) Q := by
  induction c generalizing i y with
  | zero => have : i = e := by omega
            subst this; exact hx y h0
  | succ c ih => exact hb i y (by omega) h0 (fun y' h' => ih (i + 1) y' (by omega) h')
theorem rV_c {Γ : pTG} {d : Nat} {M : pMD} {as : List Value} {g : pGG} {mi mi' : pMI} {ml ml' : pML} (h : cV Γ d M as g mi ml mi' ml') : rV Γ d M as g mi ml (fun m l => m = mi' ∧ l = ml') := h
theorem reach_r (Γ : pTG) (g : pGG) (hSh : Sh g) {P : PD} {H : Nat → HBt} {wh : Nat → Nat} {ask : Nat → Bool} {dd : Nat} {m : pMI} {l : pML} (hC : ShC g (dd + 5)) (hkv : g.2.1 (dd + 2) = (20, 8)) (hP : okPD P) (hH : okH H) (hA : okA H ask) (hdd : dd = 27 ∨ dd = 42) {r : Nat} (hD : DOK P H wh ask dd r m l) : ∀ k, r + k ≤ 200 → DOK P H wh ask dd (r + k) (lpS (rcS P H wh ask dd) r k (m, l)).1 (lpS (rcS P H wh ask dd) r k (m, l)).2 ∧ frX dd m (lpS (rcS P H wh ask dd) r k (m, l)).1 ∧ ∀ i, i ≠ dd + 3 → (lpS (rcS P H wh ask dd) r k (m, l)).2 i = l i
  | 0, _ => ⟨hD, frX_r, fun _ _ => rfl⟩
  | k + 1, hk => by
    obtain ⟨i1, i2, i3⟩ := reach_r Γ g hSh hC hkv hP hH hA hdd hD k (by omega)
    rw [lpS_snoc]
    generalize lpS (rcS P H wh ask dd) r k (m, l) = s at i1 i2 i3 ⊢
    obtain ⟨m1, l1⟩ := s
    dsimp only at i1 i2 i3
    obtain ⟨f1, f2⟩ := frX_s Γ g hSh hC hkv hP hH hdd i1
    exact ⟨dok_step Γ g hSh hC hkv hP hH hA hdd (by show r + k < 200; omega) i1, frX_t i2 f1, fun i hi => (f2 i hi).trans (i3 i hi)⟩

theorem X_need {Γ : pTG} {d k n : Nat} {M : pMD} {pc : Nat} {L : List (Nat × Value)} {S : List Value} {g : pGG} {mi : pMI} {ml : pML} {Q : pQ} {d' idx o c z na : Nat} {M' : pMD} {As S0 : List Value} {ok : Prop} {E : String} {j : Nat} (hd : decode M.2.1 pc = .ok (.invokevirtual idx, 3)) (hm : MLV M.1.cls idx M' c na) (hk : g.2.1 o = (c, z)) (hC : CT Γ d' 1 6 M' (.ref o :: As) g mi ml (qN g mi ml ok E j)) (hS0 : S0 = As.reverse ++ .ref o :: S) (hA : As.length = na) (hd' : d' + 1 ≤ d) (hk' : 1 ≤ k) (hn' : 6 ≤ n) (hcat : (S.map (fun v => v.category)).sum ≤ 8)
    (kx : ¬ ok → Q (.inr E) g (up2 mi 86 j (mi 86 j + nI 1)) ml) (kk : ok → XW Γ d (k - 1) (n - 6) M (pc + 3) L S g mi ml Q) : XW Γ d k n M pc L S0 g mi ml Q := by
  refine X_callV hd hm hk hC hS0 hA hd' hk' hn' hcat (fun E' g' mi' ml' h => ?_) (fun v g' mi' ml' h => ?_)
  · obtain ⟨rfl, rfl, ⟨h1, h2, h3⟩ | ⟨h1, h2, h3⟩⟩ := h
    · cases h2
    · cases h2; rw [h3]; exact kx h1
  · obtain ⟨rfl, rfl, ⟨h1, h2, h3⟩ | ⟨h1, h2, h3⟩⟩ := h
    · cases h2; rw [h3]; exact kk h1
    · cases h2
/-- how a refused call of the class leaves it -/
def rfC (mi : pMI) (j : Nat) : pMI := up2 mi 86 j (mi 86 j + nI 1)

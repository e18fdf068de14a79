/-- field idx of the pool of class own is the j-th of class c -/
def FLK (own : String) (idx c j : Nat) : Prop := c < 13 ∧ j < nfC c ∧ Cond.fieldLink own idx (TC c j).1 (TC c j).2.1 (TC c j).2.2.1 ∈ uxW
theorem RepH.lt {Γ : pTG} {ad : Nat → Nat} {g : pGG} {mi : pMI} {ml : pML} {H : Heap} (h : RepH Γ ad g mi ml H) {o c z : Nat} (hk : g.2.1 o = (c, z)) (hc : c ≠ 99) : o < g.1 := by
  rcases Nat.lt_or_ge o g.1 with q | q
  · exact q
  · have := h.2.2.2.2.2.1 o q; rw [hk] at this; exact absurd this hc
theorem RepH.okr {Γ : pTG} {ad : Nat → Nat} {g : pGG} {mi : pMI} {ml : pML} {H : Heap} (h : RepH Γ ad g mi ml H) {o j : Nat} (ho : o < g.1) : okv g (va_rf (g.2.2 o j)) := by
  intro i hi
  cases hr : g.2.2 o j with
  | none => rw [hr] at hi; cases hi
  | some a => rw [hr] at hi; have e : a = i := by simpa [va_rf] using hi
              subst e; exact Or.inl (h.2.2.1 o ho j a hr)
theorem fv_at {ad : Nat → Nat} {g : pGG} {mi : pMI} {c o j : Nat} (hj : j < nfC c) : ((List.range (nfC c)).map (fvl ad g mi c o))[j]? = some (fvl ad g mi c o j) := by
  rw [List.getElem?_map, List.getElem?_range hj]; rfl
theorem wsO_obj {dA : Nat → ClassId} {ad : Nat → Nat} {g : pGG} {mi : pMI} {ml : pML} {o c z : Nat} (ho : o < g.1) (hk : g.2.1 o = (c, z)) (hc : c < 13) : (wsO dA ad g mi ml)[o]? = some (ad o, .inr (c, (List.range (nfC c)).map (fvl ad g mi c o))) := by
  rw [wsO_at ho, entE_obj hk hc]
theorem fvl_i {ad : Nat → Nat} {g : pGG} {mi : pMI} {c o j : Nat} (h : rfk (tyC c j) = false) : fvl ad g mi c o j = .int (mi o j) := by unfold fvl; rw [h]; rfl
theorem fvl_r {ad : Nat → Nat} {g : pGG} {mi : pMI} {c o j : Nat} (h : rfk (tyC c j) = true) : fvl ad g mi c o j = va_rf ((g.2.2 o j).map ad) := by unfold fvl; rw [h]; rfl
theorem lset {f f' : Nat → Value} {N j : Nat} {v : Value} (h1 : f' j = v) (h2 : ∀ i, i ≠ j → f' i = f i) : ((List.range N).map f).set j v = (List.range N).map f' := by
  apply List.ext_getElem?
  intro i
  by_cases hi : i < N
  · by_cases e : i = j
    · subst e
      rw [List.getElem?_set_self (by simpa using hi), List.getElem?_map, List.getElem?_range hi]
      exact congrArg some h1.symm
    · rw [List.getElem?_set_ne (Ne.symm e), List.getElem?_map, List.getElem?_map, List.getElem?_range hi]
      exact congrArg some (h2 i e).symm
  · rw [List.getElem?_eq_none (by simp; omega), List.getElem?_eq_none (by simp; omega)]
theorem up2_s {α : Type} {m : Nat → Nat → α} {o k : Nat} {v : α} : up2 m o k v o k = v := by simp [up2]
theorem up2_n {α : Type} {m : Nat → Nat → α} {o k : Nat} {v : α} {b : Nat} (h : b ≠ k) : up2 m o k v o b = m o b := by simp [up2, h]
theorem entE_mi {dA : Nat → ClassId} {ad : Nat → Nat} {g : pGG} {mi mi' : pMI} {ml : pML} {i : Nat} (h : mi' i = mi i) : entE dA ad g mi' ml i = entE dA ad g mi ml i := by
  unfold entE fvl; rw [h]
theorem entE_ml {dA : Nat → ClassId} {ad : Nat → Nat} {g : pGG} {mi : pMI} {ml ml' : pML} {i : Nat} (h : ml' i = ml i) : entE dA ad g mi ml' i = entE dA ad g mi ml i := by
  unfold entE; rw [h]
theorem entE_mr {dA : Nat → ClassId} {ad : Nat → Nat} {n : Nat} {kd : Nat → Nat × Nat} {mr mr' : Nat → Nat → Option Nat} {mi : pMI} {ml : pML} {i : Nat} (h : mr' i = mr i) : entE dA ad (n, kd, mr') mi ml i = entE dA ad (n, kd, mr) mi ml i := by
  unfold entE fvl; dsimp only; rw [h]
theorem wsO_puti {dA : Nat → ClassId} {ad : Nat → Nat} {g : pGG} {mi : pMI} {ml : pML} {o c z j : Nat} {x : Int32} (ho : o < g.1) (hk : g.2.1 o = (c, z)) (hc : c < 13) (hf : rfk (tyC c j) = false) : (wsO dA ad g mi ml).set o (ad o, .inr (c, ((List.range (nfC c)).map (fvl ad g mi c o)).set j (.int x))) = wsO dA ad g (up2 mi o j x) ml := by
  refine wsO_set ho rfl ?_ (fun i hi => entE_mi (up2_row hi))
  rw [entE_obj hk hc, lset (f' := fvl ad g (up2 mi o j x) c o)]
  · rw [fvl_i hf, up2_s]
  · intro i hi
    unfold fvl
    rw [up2_n hi]
theorem wsO_putr {dA : Nat → ClassId} {ad : Nat → Nat} {g : pGG} {mi : pMI} {ml : pML} {o c z j : Nat} {r : Option Nat} (ho : o < g.1) (hk : g.2.1 o = (c, z)) (hc : c < 13) (hf : rfk (tyC c j) = true) : (wsO dA ad g mi ml).set o (ad o, .inr (c, ((List.range (nfC c)).map (fvl ad g mi c o)).set j (va_rf (r.map ad)))) = wsO dA ad (g.1, g.2.1, up2 g.2.2 o j r) mi ml := by
  refine wsO_set ho rfl ?_ (fun i hi => entE_mr (up2_row hi))
  rw [entE_obj (g := (g.1, g.2.1, up2 g.2.2 o j r)) hk hc, lset (f' := fvl ad (g.1, g.2.1, up2 g.2.2 o j r) mi c o)]
  · rw [fvl_r hf]; show va_rf ((up2 g.2.2 o j r o j).map ad) = _; rw [up2_s]
  · intro i hi
    unfold fvl
    dsimp only
    rw [up2_n hi]
theorem RepH.mi {Γ : pTG} {ad : Nat → Nat} {g : pGG} {mi mi' : pMI} {ml ml' : pML} {H H1 : Heap} (h : RepH Γ ad g mi ml H) (hP : va_P Γ.2.1 vwCl (wsO Γ.2.2.1 ad g mi' ml') H1) (hD : va_D (regA Γ) (wsO Γ.2.2.1 ad g mi' ml')) : RepH Γ ad g mi' ml' H1 := ⟨hP, hD, h.2.2⟩
theorem RepH.mr {Γ : pTG} {ad : Nat → Nat} {g : pGG} {mi mi' : pMI} {ml ml' : pML} {H H1 : Heap} {o j : Nat} {r : Option Nat} (h : RepH Γ ad g mi ml H) (hr : ∀ a, r = some a → a < g.1) (hP : va_P Γ.2.1 vwCl (wsO Γ.2.2.1 ad (g.1, g.2.1, up2 g.2.2 o j r) mi' ml') H1) (hD : va_D (regA Γ) (wsO Γ.2.2.1 ad (g.1, g.2.1, up2 g.2.2 o j r) mi' ml')) : RepH Γ ad (g.1, g.2.1, up2 g.2.2 o j r) mi' ml' H1 := by
  refine ⟨hP, hD, fun i hi b a hb => ?_, h.2.2.2⟩
  have hb : up2 g.2.2 o j r i b = some a := hb
  unfold up2 at hb
  by_cases e : i = o ∧ b = j
  · rw [if_pos e] at hb; exact hr a hb
  · rw [if_neg e] at hb; exact h.2.2.1 i hi b a hb

theorem X_geti {Γ : pTG} {d k n : Nat} {M : pMD} {pc : Nat} {L : List (Nat × Value)} {S : List Value} {g : pGG} {mi : pMI} {ml : pML} {Q : pQ} {o c z idx j : Nat} (hd : decode M.2.1 pc = .ok (.getfield idx, 3)) (hf : FLK M.1.cls idx c j) (ht : rfk (tyC c j) = false) (hk : g.2.1 o = (c, z)) (h : XW Γ d k n M (pc + 3) L (.int (mi o j) :: S) g mi ml Q) : XW Γ d k n M pc L (.ref o :: S) g mi ml Q := by
  intro p e s m args below meth cd H locs cells slots mc ms ls ad ad0 n0 R P
  obtain ⟨hc, hE, hS, hl, hRep, hoL, hoS, hr, ha⟩ := P
  have ho := hRep.lt hk (by have := hf.1; omega)
  exact va_get (cl := vwCl) (tys := tysO Γ.2.2.1) (D := Γ.2.1) hc.1 hc.2.1 hc.2.2.2.2.1 (clsA hf.1).2.1 hc.2.2.2.1 hE.2.1 hRep.1 o (wsO_obj ho hk hf.1) (clsA hf.1).1 j hf.2.1 (hc.2.2.2.2.1 _ hf.2.2) (fun _ q => q) ((fv_at hf.2.1).trans (congrArg some (fvl_i ht))) hd (h p e s m args below meth cd H locs cells slots mc ms ls ad ad0 n0 R ⟨hc, hE, hS, hl, hRep, hoL, okS_c okv_i (okS_t hoS), hr, ha⟩)
theorem X_getq {Γ : pTG} {d k n : Nat} {M : pMD} {pc : Nat} {L : List (Nat × Value)} {S : List Value} {g : pGG} {mi : pMI} {ml : pML} {Q : pQ} {o c z idx j : Nat} (hd : decode M.2.1 pc = .ok (.getfield idx, 3)) (hf : FLK M.1.cls idx c j) (ht : rfk (tyC c j) = true) (hk : g.2.1 o = (c, z)) (h : XW Γ d k n M (pc + 3) L (va_rf (g.2.2 o j) :: S) g mi ml Q) : XW Γ d k n M pc L (.ref o :: S) g mi ml Q := by
  intro p e s m args below meth cd H locs cells slots mc ms ls ad ad0 n0 R P
  obtain ⟨hc, hE, hS, hl, hRep, hoL, hoS, hr, ha⟩ := P
  have ho := hRep.lt hk (by have := hf.1; omega)
  refine va_get (cl := vwCl) (tys := tysO Γ.2.2.1) (D := Γ.2.1) hc.1 hc.2.1 hc.2.2.2.2.1 (clsA hf.1).2.1 hc.2.2.2.1 hE.2.1 hRep.1 o (wsO_obj ho hk hf.1) (clsA hf.1).1 j hf.2.1 (hc.2.2.2.2.1 _ hf.2.2) (fun _ q => q) ((fv_at hf.2.1).trans (congrArg some (fvl_r ht))) hd ?_
  rw [← cv_rf]
  exact (h p e s m args below meth cd H locs cells slots mc ms ls ad ad0 n0 R ⟨hc, hE, hS, hl, hRep, hoL, okS_c (hRep.okr ho) (okS_t hoS), hr, ha⟩)
theorem X_getr {Γ : pTG} {d k n : Nat} {M : pMD} {pc : Nat} {L : List (Nat × Value)} {S : List Value} {g : pGG} {mi : pMI} {ml : pML} {Q : pQ} {o c z idx j a : Nat} (hd : decode M.2.1 pc = .ok (.getfield idx, 3)) (hf : FLK M.1.cls idx c j) (ht : rfk (tyC c j) = true) (hk : g.2.1 o = (c, z)) (hm : g.2.2 o j = some a) (h : XW Γ d k n M (pc + 3) L (.ref a :: S) g mi ml Q) : XW Γ d k n M pc L (.ref o :: S) g mi ml Q := by
  refine X_getq hd hf ht hk ?_
  rw [hm]
  exact h
theorem X_puti {Γ : pTG} {d k n : Nat} {M : pMD} {pc : Nat} {L : List (Nat × Value)} {S : List Value} {g : pGG} {mi : pMI} {ml : pML} {Q : pQ} {o c z idx j : Nat} {x : Int32} (hd : decode M.2.1 pc = .ok (.putfield idx, 3)) (hf : FLK M.1.cls idx c j) (hty : tyC c j = .int) (hfin : (TC c j).2.2.2 = false) (hk : g.2.1 o = (c, z)) (h : XW Γ d k n M (pc + 3) L S g (up2 mi o j x) ml Q) : XW Γ d k n M pc L (.int x :: .ref o :: S) g mi ml Q := by
  intro p e s m args below meth cd H locs cells slots mc ms ls ad ad0 n0 R P
  obtain ⟨hc, hE, hS, hl, hRep, hoL, hoS, hr, ha⟩ := P
  have ho := hRep.lt hk (by have := hf.1; omega)
  have ht : rfk (tyC c j) = false := by rw [hty]; rfl
  refine va_put (cl := vwCl) (tys := tysO Γ.2.2.1) (D := Γ.2.1) hc.1 hc.2.1 hc.2.2.2.2.1 (clsA hf.1).2.1 (tyC c) (clsA hf.1).2.2.1 (clsA hf.1).2.2.2 hc.2.2.2.1 hE.2.1 hRep.1 hRep.2.1 hS o (wsO_obj ho hk hf.1) (clsA hf.1).1 j hf.2.1 (hc.2.2.2.2.1 _ hf.2.2) (fun _ q => q) hfin (((clsA hf.1).2.2.1 j hf.2.1).trans (congrArg some hty)) rfl rfl (by simpa using hf.2.1) hd (fun H1 locs1 hP1 hD1 hS1 => ?_)
  rw [cv_i, wsO_puti ho hk hf.1 ht] at hP1 hD1
  exact (h p e s m args below meth cd H1 locs1 cells slots mc ms ls ad ad0 n0 R ⟨hc, hE, hS1, hl, hRep.mi hP1 hD1, hoL, okS_t (okS_t hoS), hr, ha⟩)
theorem X_putz {Γ : pTG} {d k n : Nat} {M : pMD} {pc : Nat} {L : List (Nat × Value)} {S : List Value} {g : pGG} {mi : pMI} {ml : pML} {Q : pQ} {o c z idx j : Nat} {x : Int32} (hd : decode M.2.1 pc = .ok (.putfield idx, 3)) (hf : FLK M.1.cls idx c j) (hty : tyC c j = .boolean) (hx : x = 0 ∨ x = 1) (hfin : (TC c j).2.2.2 = false) (hk : g.2.1 o = (c, z)) (h : XW Γ d k n M (pc + 3) L S g (up2 mi o j x) ml Q) : XW Γ d k n M pc L (.int x :: .ref o :: S) g mi ml Q := by
  intro p e s m args below meth cd H locs cells slots mc ms ls ad ad0 n0 R P
  obtain ⟨hc, hE, hS, hl, hRep, hoL, hoS, hr, ha⟩ := P
  have ho := hRep.lt hk (by have := hf.1; omega)
  have ht : rfk (tyC c j) = false := by rw [hty]; rfl
  refine va_put (cl := vwCl) (tys := tysO Γ.2.2.1) (D := Γ.2.1) hc.1 hc.2.1 hc.2.2.2.2.1 (clsA hf.1).2.1 (tyC c) (clsA hf.1).2.2.1 (clsA hf.1).2.2.2 hc.2.2.2.1 hE.2.1 hRep.1 hRep.2.1 hS o (wsO_obj ho hk hf.1) (clsA hf.1).1 j hf.2.1 (hc.2.2.2.2.1 _ hf.2.2) (fun _ q => q) hfin (((clsA hf.1).2.2.1 j hf.2.1).trans (congrArg some hty)) (by rw [cv_i]; rcases hx with rfl | rfl <;> decide) (by rw [cv_i]; rcases hx with rfl | rfl <;> decide) (by simpa using hf.2.1) hd (fun H1 locs1 hP1 hD1 hS1 => ?_)
  rw [cv_i, wsO_puti ho hk hf.1 ht] at hP1 hD1
  exact (h p e s m args below meth cd H1 locs1 cells slots mc ms ls ad ad0 n0 R ⟨hc, hE, hS1, hl, hRep.mi hP1 hD1, hoL, okS_t (okS_t hoS), hr, ha⟩)
theorem X_putzF {Γ : pTG} {d k n : Nat} {M : pMD} {pc : Nat} {L : List (Nat × Value)} {S : List Value} {g : pGG} {mi : pMI} {ml : pML} {Q : pQ} {o c z idx j : Nat} {x : Int32} (hd : decode M.2.1 pc = .ok (.putfield idx, 3)) (hf : FLK M.1.cls idx c j) (hty : tyC c j = .boolean) (hx : x = 0 ∨ x = 1) (hfin : (TC c j).2.2.2 = true) (hin : M.1.name = "<init>") (hdc : (TC c j).1 = M.1.cls) (hk : g.2.1 o = (c, z)) (h : XW Γ d k n M (pc + 3) L S g (up2 mi o j x) ml Q) : XW Γ d k n M pc L (.int x :: .ref o :: S) g mi ml Q := by
  intro p e s m args below meth cd H locs cells slots mc ms ls ad ad0 n0 R P
  obtain ⟨hc, hE, hS, hl, hRep, hoL, hoS, hr, ha⟩ := P
  have ho := hRep.lt hk (by have := hf.1; omega)
  have ht : rfk (tyC c j) = false := by rw [hty]; rfl
  refine va_putF (cl := vwCl) (tys := tysO Γ.2.2.1) (D := Γ.2.1) hc.1 hc.2.1 hc.2.2.2.2.1 (clsA hf.1).2.1 (tyC c) (clsA hf.1).2.2.1 (clsA hf.1).2.2.2 hc.2.2.2.1 hE.2.1 hRep.1 hRep.2.1 hS o (wsO_obj ho hk hf.1) (clsA hf.1).1 j hf.2.1 (hc.2.2.2.2.1 _ hf.2.2) (fun _ q => q) hfin (hc.2.2.2.2.2.2.2.2.trans hin) hdc (((clsA hf.1).2.2.1 j hf.2.1).trans (congrArg some hty)) (by rw [cv_i]; rcases hx with rfl | rfl <;> decide) (by rw [cv_i]; rcases hx with rfl | rfl <;> decide) (by simpa using hf.2.1) hd (fun H1 locs1 hP1 hD1 hS1 => ?_)
  rw [cv_i, wsO_puti ho hk hf.1 ht] at hP1 hD1
  exact (h p e s m args below meth cd H1 locs1 cells slots mc ms ls ad ad0 n0 R ⟨hc, hE, hS1, hl, hRep.mi hP1 hD1, hoL, okS_t (okS_t hoS), hr, ha⟩)
theorem X_putr {Γ : pTG} {d k n : Nat} {M : pMD} {pc : Nat} {L : List (Nat × Value)} {S : List Value} {g : pGG} {mi : pMI} {ml : pML} {Q : pQ} {o c z idx j a : Nat} (hd : decode M.2.1 pc = .ok (.putfield idx, 3)) (hf : FLK M.1.cls idx c j) (ht : rfk (tyC c j) = true) (hfin : (TC c j).2.2.2 = false) (hk : g.2.1 o = (c, z)) (hlt : a < 999) (h : XW Γ d k n M (pc + 3) L S (g.1, g.2.1, up2 g.2.2 o j (some a)) mi ml Q) : XW Γ d k n M pc L (.ref a :: .ref o :: S) g mi ml Q := by
  intro p e s m args below meth cd H locs cells slots mc ms ls ad ad0 n0 R P
  obtain ⟨hc, hE, hS, hl, hRep, hoL, hoS, hr, ha⟩ := P
  have ho := hRep.lt hk (by have := hf.1; omega)
  have hq : a < g.1 ∨ 999 ≤ a := okS_h hoS a rfl
  have hag : a < g.1 := by omega
  refine va_put (cl := vwCl) (tys := tysO Γ.2.2.1) (D := Γ.2.1) hc.1 hc.2.1 hc.2.2.2.2.1 (clsA hf.1).2.1 (tyC c) (clsA hf.1).2.2.1 (clsA hf.1).2.2.2 hc.2.2.2.1 hE.2.1 hRep.1 hRep.2.1 hS o (wsO_obj ho hk hf.1) (clsA hf.1).1 j hf.2.1 (hc.2.2.2.2.1 _ hf.2.2) (fun _ q => q) hfin ((clsA hf.1).2.2.1 j hf.2.1) (by cases hq : tyC c j <;> rw [hq] at ht <;> first | rfl | cases ht) (by cases hq : tyC c j <;> rw [hq] at ht <;> first | rfl | cases ht) (by simpa using hf.2.1) hd (fun H1 locs1 hP1 hD1 hS1 => ?_)
  rw [show cv ad (.ref a) = va_rf ((some a).map ad) from rfl, wsO_putr ho hk hf.1 ht] at hP1 hD1
  exact h p e s m args below meth cd H1 locs1 cells slots mc ms ls ad ad0 n0 R ⟨hc, hE, hS1, hl, hRep.mr (fun b hb => by cases hb; exact hag) hP1 hD1, hoL, okS_t (okS_t hoS), hr, ha⟩
theorem X_putrF {Γ : pTG} {d k n : Nat} {M : pMD} {pc : Nat} {L : List (Nat × Value)} {S : List Value} {g : pGG} {mi : pMI} {ml : pML} {Q : pQ} {o c z idx j a : Nat} (hd : decode M.2.1 pc = .ok (.putfield idx, 3)) (hf : FLK M.1.cls idx c j) (ht : rfk (tyC c j) = true) (hfin : (TC c j).2.2.2 = true) (hin : M.1.name = "<init>") (hdc : (TC c j).1 = M.1.cls) (hk : g.2.1 o = (c, z)) (hlt : a < 999) (h : XW Γ d k n M (pc + 3) L S (g.1, g.2.1, up2 g.2.2 o j (some a)) mi ml Q) : XW Γ d k n M pc L (.ref a :: .ref o :: S) g mi ml Q := by
  intro p e s m args below meth cd H locs cells slots mc ms ls ad ad0 n0 R P
  obtain ⟨hc, hE, hS, hl, hRep, hoL, hoS, hr, ha⟩ := P
  have ho := hRep.lt hk (by have := hf.1; omega)
  have hq : a < g.1 ∨ 999 ≤ a := okS_h hoS a rfl
  have hag : a < g.1 := by omega
  refine va_putF (cl := vwCl) (tys := tysO Γ.2.2.1) (D := Γ.2.1) hc.1 hc.2.1 hc.2.2.2.2.1 (clsA hf.1).2.1 (tyC c) (clsA hf.1).2.2.1 (clsA hf.1).2.2.2 hc.2.2.2.1 hE.2.1 hRep.1 hRep.2.1 hS o (wsO_obj ho hk hf.1) (clsA hf.1).1 j hf.2.1 (hc.2.2.2.2.1 _ hf.2.2) (fun _ q => q) hfin (hc.2.2.2.2.2.2.2.2.trans hin) hdc ((clsA hf.1).2.2.1 j hf.2.1) (by cases hq : tyC c j <;> rw [hq] at ht <;> first | rfl | cases ht) (by cases hq : tyC c j <;> rw [hq] at ht <;> first | rfl | cases ht) (by simpa using hf.2.1) hd (fun H1 locs1 hP1 hD1 hS1 => ?_)
  rw [show cv ad (.ref a) = va_rf ((some a).map ad) from rfl, wsO_putr ho hk hf.1 ht] at hP1 hD1
  exact h p e s m args below meth cd H1 locs1 cells slots mc ms ls ad ad0 n0 R ⟨hc, hE, hS1, hl, hRep.mr (fun b hb => by cases hb; exact hag) hP1 hD1, hoL, okS_t (okS_t hoS), hr, ha⟩
theorem nI_ix {i : Int32} {j len : Nat} (hi : i = nI j) (hj : j < len) (hb : len < 65536) : vp_in i len ∧ i.toNatClampNeg = j := by
  subst hi
  exact ⟨vp_in_nI hj (by omega), nI_clamp (by omega)⟩
theorem RepH.len {Γ : pTG} {ad : Nat → Nat} {g : pGG} {mi : pMI} {ml : pML} {H : Heap} (h : RepH Γ ad g mi ml H) {o c z : Nat} (hk : g.2.1 o = (c, z)) : z < 65536 := by have := h.2.2.2.2.2.2 o; rw [hk] at this; exact this
theorem X_iald {Γ : pTG} {d k n : Nat} {M : pMD} {pc : Nat} {L : List (Nat × Value)} {S : List Value} {g : pGG} {mi : pMI} {ml : pML} {Q : pQ} {a len : Nat} {i : Int32} (j : Nat) (hd : decode M.2.1 pc = .ok (.iaload, 1)) (hk : g.2.1 a = (20, len)) (hi : i = nI j) (hj : j < len) (h : XW Γ d k n M (pc + 1) L (.int (mi a j) :: S) g mi ml Q) : XW Γ d k n M pc L (.int i :: .ref a :: S) g mi ml Q := by
  intro p e s m args below meth cd H locs cells slots mc ms ls ad ad0 n0 R P
  obtain ⟨hc, hE, hS, hl, hRep, hoL, hoS, hr, ha⟩ := P
  have ho := hRep.lt hk (by decide)
  obtain ⟨hin, hcl⟩ := nI_ix hi hj (hRep.len hk)
  refine va_iald (cl := vwCl) (tys := tysO Γ.2.2.1) (D := Γ.2.1) hc.1 hc.2.1 hE.2.1 hRep.1 a 0 ((wsO_at ho).trans (by rw [entE_int hk])) rfl hin hd ?_
  rw [hcl]
  exact (h p e s m args below meth cd H locs cells slots mc ms ls ad ad0 n0 R ⟨hc, hE, hS, hl, hRep, hoL, okS_c okv_i (okS_t (okS_t hoS)), hr, ha⟩)
theorem X_lald {Γ : pTG} {d k n : Nat} {M : pMD} {pc : Nat} {L : List (Nat × Value)} {S : List Value} {g : pGG} {mi : pMI} {ml : pML} {Q : pQ} {a len : Nat} {i : Int32} (j : Nat) (hd : decode M.2.1 pc = .ok (.laload, 1)) (hk : g.2.1 a = (21, len)) (hi : i = nI j) (hj : j < len) (h : XW Γ d k n M (pc + 1) L (.long (ml a j) :: S) g mi ml Q) : XW Γ d k n M pc L (.int i :: .ref a :: S) g mi ml Q := by
  intro p e s m args below meth cd H locs cells slots mc ms ls ad ad0 n0 R P
  obtain ⟨hc, hE, hS, hl, hRep, hoL, hoS, hr, ha⟩ := P
  have ho := hRep.lt hk (by decide)
  obtain ⟨hin, hcl⟩ := nI_ix hi hj (hRep.len hk)
  refine va_lald (cl := vwCl) (tys := tysO Γ.2.2.1) (D := Γ.2.1) hc.1 hc.2.1 hE.2.1 hRep.1 a 1 ((wsO_at ho).trans (by rw [entE_long hk])) rfl hin hd ?_
  rw [hcl]
  exact (h p e s m args below meth cd H locs cells slots mc ms ls ad ad0 n0 R ⟨hc, hE, hS, hl, hRep, hoL, okS_c okv_l (okS_t (okS_t hoS)), hr, ha⟩)
theorem X_zald {Γ : pTG} {d k n : Nat} {M : pMD} {pc : Nat} {L : List (Nat × Value)} {S : List Value} {g : pGG} {mi : pMI} {ml : pML} {Q : pQ} {a len : Nat} {i : Int32} (j : Nat) (hd : decode M.2.1 pc = .ok (.baload, 1)) (hk : g.2.1 a = (22, len)) (hi : i = nI j) (hj : j < len) (h : XW Γ d k n M (pc + 1) L (.int (mi a j) :: S) g mi ml Q) : XW Γ d k n M pc L (.int i :: .ref a :: S) g mi ml Q := by
  intro p e s m args below meth cd H locs cells slots mc ms ls ad ad0 n0 R P
  obtain ⟨hc, hE, hS, hl, hRep, hoL, hoS, hr, ha⟩ := P
  have ho := hRep.lt hk (by decide)
  obtain ⟨hin, hcl⟩ := nI_ix hi hj (hRep.len hk)
  refine va_zald (cl := vwCl) (tys := tysO Γ.2.2.1) (D := Γ.2.1) hc.1 hc.2.1 hE.2.1 hRep.1 a 2 ((wsO_at ho).trans (by rw [entE_bool hk])) rfl hin hd ?_
  rw [hcl]
  exact (h p e s m args below meth cd H locs cells slots mc ms ls ad ad0 n0 R ⟨hc, hE, hS, hl, hRep, hoL, okS_c okv_i (okS_t (okS_t hoS)), hr, ha⟩)
theorem wsO_arr {dA : Nat → ClassId} {ad : Nat → Nat} {g : pGG} {mi : pMI} {ml : pML} {a len j : Nat} {x : Int32} (ho : a < g.1) (hk : g.2.1 a = (20, len)) : (wsO dA ad g mi ml).set a (ad a, .inl (dA 0, len, .inl (upd (mi a) j x))) = wsO dA ad g (up2 mi a j x) ml := by
  refine wsO_set ho rfl ?_ (fun i hi => entE_mi (up2_row hi))
  rw [entE_int hk]
  refine congrArg (fun f => (Sum.inl (dA 0, len, Sum.inl f) : va_E)) (funext fun b => ?_)
  by_cases e : b = j
  · subst e; rw [up2_s]; simp [upd]
  · rw [up2_n e]; simp [upd, e]
theorem wsO_arrz {dA : Nat → ClassId} {ad : Nat → Nat} {g : pGG} {mi : pMI} {ml : pML} {a len j : Nat} {x : Int32} (ho : a < g.1) (hk : g.2.1 a = (22, len)) : (wsO dA ad g mi ml).set a (ad a, .inl (dA 2, len, .inl (upd (mi a) j x))) = wsO dA ad g (up2 mi a j x) ml := by
  refine wsO_set ho rfl ?_ (fun i hi => entE_mi (up2_row hi))
  rw [entE_bool hk]
  refine congrArg (fun f => (Sum.inl (dA 2, len, Sum.inl f) : va_E)) (funext fun b => ?_)
  by_cases e : b = j
  · subst e; rw [up2_s]; simp [upd]
  · rw [up2_n e]; simp [upd, e]
theorem wsO_arrl {dA : Nat → ClassId} {ad : Nat → Nat} {g : pGG} {mi : pMI} {ml : pML} {a len j : Nat} {x : Int64} (ho : a < g.1) (hk : g.2.1 a = (21, len)) : (wsO dA ad g mi ml).set a (ad a, .inl (dA 1, len, .inr (.inl (vp_updL (ml a) j x)))) = wsO dA ad g mi (up2 ml a j x) := by
  refine wsO_set ho rfl ?_ (fun i hi => entE_ml (up2_row hi))
  rw [entE_long hk]
  refine congrArg (fun f => (Sum.inl (dA 1, len, Sum.inr (Sum.inl f)) : va_E)) (funext fun b => ?_)
  by_cases e : b = j
  · subst e; rw [up2_s]; simp [vp_updL]
  · rw [up2_n e]; simp [vp_updL, e]
theorem X_iast {Γ : pTG} {d k n : Nat} {M : pMD} {pc : Nat} {L : List (Nat × Value)} {S : List Value} {g : pGG} {mi : pMI} {ml : pML} {Q : pQ} {a len : Nat} {i x : Int32} (j : Nat) (hd : decode M.2.1 pc = .ok (.iastore, 1)) (hk : g.2.1 a = (20, len)) (hi : i = nI j) (hj : j < len) (h : XW Γ d k n M (pc + 1) L S g (up2 mi a j x) ml Q) : XW Γ d k n M pc L (.int x :: .int i :: .ref a :: S) g mi ml Q := by
  intro p e s m args below meth cd H locs cells slots mc ms ls ad ad0 n0 R P
  obtain ⟨hc, hE, hS, hl, hRep, hoL, hoS, hr, ha⟩ := P
  have ho := hRep.lt hk (by decide)
  obtain ⟨hin, hcl⟩ := nI_ix hi hj (hRep.len hk)
  refine va_iast (cl := vwCl) (tys := tysO Γ.2.2.1) (D := Γ.2.1) hc.1 hc.2.1 hE.2.1 hRep.1 hRep.2.1 hS a 0 ((wsO_at ho).trans (by rw [entE_int hk])) rfl hin hd (fun H1 locs1 hP1 hD1 hS1 => ?_)
  rw [hcl, wsO_arr ho hk] at hP1 hD1
  exact (h p e s m args below meth cd H1 locs1 cells slots mc ms ls ad ad0 n0 R ⟨hc, hE, hS1, hl, hRep.mi hP1 hD1, hoL, okS_t (okS_t (okS_t hoS)), hr, ha⟩)
theorem X_zast {Γ : pTG} {d k n : Nat} {M : pMD} {pc : Nat} {L : List (Nat × Value)} {S : List Value} {g : pGG} {mi : pMI} {ml : pML} {Q : pQ} {a len : Nat} {i x : Int32} (j : Nat) (hd : decode M.2.1 pc = .ok (.bastore, 1)) (hk : g.2.1 a = (22, len)) (hx : x = 0 ∨ x = 1) (hi : i = nI j) (hj : j < len) (h : XW Γ d k n M (pc + 1) L S g (up2 mi a j x) ml Q) : XW Γ d k n M pc L (.int x :: .int i :: .ref a :: S) g mi ml Q := by
  intro p e s m args below meth cd H locs cells slots mc ms ls ad ad0 n0 R P
  obtain ⟨hc, hE, hS, hl, hRep, hoL, hoS, hr, ha⟩ := P
  have ho := hRep.lt hk (by decide)
  obtain ⟨hin, hcl⟩ := nI_ix hi hj (hRep.len hk)
  refine va_zast (cl := vwCl) (tys := tysO Γ.2.2.1) (D := Γ.2.1) hc.1 hc.2.1 hE.2.1 hRep.1 hRep.2.1 hS a 2 ((wsO_at ho).trans (by rw [entE_bool hk])) rfl hin hd (fun H1 locs1 hP1 hD1 hS1 => ?_)
  have hnx : vp_nar .boolean x = x := by rcases hx with rfl | rfl <;> decide
  rw [hcl, hnx, wsO_arrz ho hk] at hP1 hD1
  exact (h p e s m args below meth cd H1 locs1 cells slots mc ms ls ad ad0 n0 R ⟨hc, hE, hS1, hl, hRep.mi hP1 hD1, hoL, okS_t (okS_t (okS_t hoS)), hr, ha⟩)
theorem X_last {Γ : pTG} {d k n : Nat} {M : pMD} {pc : Nat} {L : List (Nat × Value)} {S : List Value} {g : pGG} {mi : pMI} {ml : pML} {Q : pQ} {a len : Nat} {i : Int32} {x : Int64} (j : Nat) (hd : decode M.2.1 pc = .ok (.lastore, 1)) (hk : g.2.1 a = (21, len)) (hi : i = nI j) (hj : j < len) (h : XW Γ d k n M (pc + 1) L S g mi (up2 ml a j x) Q) : XW Γ d k n M pc L (.long x :: .int i :: .ref a :: S) g mi ml Q := by
  intro p e s m args below meth cd H locs cells slots mc ms ls ad ad0 n0 R P
  obtain ⟨hc, hE, hS, hl, hRep, hoL, hoS, hr, ha⟩ := P
  have ho := hRep.lt hk (by decide)
  obtain ⟨hin, hcl⟩ := nI_ix hi hj (hRep.len hk)
  refine va_last (cl := vwCl) (tys := tysO Γ.2.2.1) (D := Γ.2.1) hc.1 hc.2.1 hE.2.1 hRep.1 hRep.2.1 hS a 1 ((wsO_at ho).trans (by rw [entE_long hk])) rfl hin hd (fun H1 locs1 hP1 hD1 hS1 => ?_)
  rw [hcl, wsO_arrl ho hk] at hP1 hD1
  exact (h p e s m args below meth cd H1 locs1 cells slots mc ms ls ad ad0 n0 R ⟨hc, hE, hS1, hl, hRep.mi hP1 hD1, hoL, okS_t (okS_t (okS_t hoS)), hr, ha⟩)
theorem X_aald {Γ : pTG} {d k n : Nat} {M : pMD} {pc : Nat} {L : List (Nat × Value)} {S : List Value} {g : pGG} {mi : pMI} {ml : pML} {Q : pQ} {a len : Nat} {i : Int32} (j : Nat) (hd : decode M.2.1 pc = .ok (.aaload, 1)) (hk : g.2.1 a = (23, len)) (hi : i = nI j) (hj : j < len) (h : XW Γ d k n M (pc + 1) L (va_rf (g.2.2 a j) :: S) g mi ml Q) : XW Γ d k n M pc L (.int i :: .ref a :: S) g mi ml Q := by
  intro p e s m args below meth cd H locs cells slots mc ms ls ad ad0 n0 R P
  obtain ⟨hc, hE, hS, hl, hRep, hoL, hoS, hr, ha⟩ := P
  have ho := hRep.lt hk (by decide)
  obtain ⟨hin, hcl⟩ := nI_ix hi hj (hRep.len hk)
  have hP := hRep.1 a _ ((wsO_at ho).trans (by rw [entE_arr hk]))
  refine W.aald (v := va_rf ((g.2.2 a j).map ad)) (ty := .array .int) hc.1 hc.2.1 hP ((hE.2.1.2 3 _ rfl).1 len (fun j => va_rf ((g.2.2 a j).map ad))) rfl (fun q => by cases q) (by show ¬ (i < 0 ∨ (arrV _ _ _).slots.size ≤ _); rw [arrV_size]; exact hin) (by show (arrV _ _ _).slots[_]? = _; rw [hcl, arrV_read _ _ hj]) rfl rfl hd ?_
  rw [← cv_rf]
  exact (h p e s m args below meth cd H locs cells slots mc ms ls ad ad0 n0 R ⟨hc, hE, hS, hl, hRep, hoL, okS_c (hRep.okr ho) (okS_t (okS_t hoS)), hr, ha⟩)
theorem X_aaldr {Γ : pTG} {d k n : Nat} {M : pMD} {pc : Nat} {L : List (Nat × Value)} {S : List Value} {g : pGG} {mi : pMI} {ml : pML} {Q : pQ} {a len b : Nat} {i : Int32} (j : Nat) (hd : decode M.2.1 pc = .ok (.aaload, 1)) (hk : g.2.1 a = (23, len)) (hi : i = nI j) (hj : j < len) (hm : g.2.2 a j = some b) (h : XW Γ d k n M (pc + 1) L (.ref b :: S) g mi ml Q) : XW Γ d k n M pc L (.int i :: .ref a :: S) g mi ml Q := by
  refine X_aald j hd hk hi hj ?_
  rw [hm]
  exact h
theorem X_gald {Γ : pTG} {d k n : Nat} {M : pMD} {pc : Nat} {L : List (Nat × Value)} {S : List Value} {g : pGG} {mi : pMI} {ml : pML} {Q : pQ} {a len : Nat} {i : Int32} (j : Nat) (hd : decode M.2.1 pc = .ok (.aaload, 1)) (hk : g.2.1 a = (24, len)) (hi : i = nI j) (hj : j < len) (h : XW Γ d k n M (pc + 1) L (va_rf (g.2.2 a j) :: S) g mi ml Q) : XW Γ d k n M pc L (.int i :: .ref a :: S) g mi ml Q := by
  intro p e s m args below meth cd H locs cells slots mc ms ls ad ad0 n0 R P
  obtain ⟨hc, hE, hS, hl, hRep, hoL, hoS, hr, ha⟩ := P
  have ho := hRep.lt hk (by decide)
  obtain ⟨hin, hcl⟩ := nI_ix hi hj (hRep.len hk)
  refine va_aldq (cl := vwCl) (tys := tysO Γ.2.2.1) (D := Γ.2.1) hc.1 hc.2.1 hE.2.1 hRep.1 a 4 ((wsO_at ho).trans (by rw [entE_img hk])) rfl hin hd ?_
  rw [hcl, ← cv_rf]
  exact (h p e s m args below meth cd H locs cells slots mc ms ls ad ad0 n0 R ⟨hc, hE, hS, hl, hRep, hoL, okS_c (hRep.okr ho) (okS_t (okS_t hoS)), hr, ha⟩)
theorem X_alen {Γ : pTG} {d k n : Nat} {M : pMD} {pc : Nat} {L : List (Nat × Value)} {S : List Value} {g : pGG} {mi : pMI} {ml : pML} {Q : pQ} {a len t : Nat} (hd : decode M.2.1 pc = .ok (.arraylength, 1)) (hk : g.2.1 a = (t, len)) (ht : t = 20 ∨ t = 21 ∨ t = 22 ∨ t = 23 ∨ t = 24) (h : XW Γ d k n M (pc + 1) L (.int (nI len) :: S) g mi ml Q) : XW Γ d k n M pc L (.ref a :: S) g mi ml Q := by
  intro p e s m args below meth cd H locs cells slots mc ms ls ad ad0 n0 R P
  obtain ⟨hc, hE, hS, hl, hRep, hoL, hoS, hr, ha⟩ := P
  have ho := hRep.lt hk (by omega)
  rcases ht with rfl | rfl | rfl | rfl | rfl
  · exact va_alen (cl := vwCl) (tys := tysO Γ.2.2.1) (D := Γ.2.1) hc.1 hc.2.1 hE.2.1 hRep.1 a 0 ((wsO_at ho).trans (congrArg (fun e => some (ad a, e)) (entE_int hk))) rfl rfl hd (h p e s m args below meth cd H locs cells slots mc ms ls ad ad0 n0 R ⟨hc, hE, hS, hl, hRep, hoL, okS_c okv_i (okS_t hoS), hr, ha⟩)
  · exact va_alen (cl := vwCl) (tys := tysO Γ.2.2.1) (D := Γ.2.1) hc.1 hc.2.1 hE.2.1 hRep.1 a 1 ((wsO_at ho).trans (congrArg (fun e => some (ad a, e)) (entE_long hk))) rfl rfl hd (h p e s m args below meth cd H locs cells slots mc ms ls ad ad0 n0 R ⟨hc, hE, hS, hl, hRep, hoL, okS_c okv_i (okS_t hoS), hr, ha⟩)
  · exact va_alen (cl := vwCl) (tys := tysO Γ.2.2.1) (D := Γ.2.1) hc.1 hc.2.1 hE.2.1 hRep.1 a 2 ((wsO_at ho).trans (congrArg (fun e => some (ad a, e)) (entE_bool hk))) rfl rfl hd (h p e s m args below meth cd H locs cells slots mc ms ls ad ad0 n0 R ⟨hc, hE, hS, hl, hRep, hoL, okS_c okv_i (okS_t hoS), hr, ha⟩)
  · exact va_alen (cl := vwCl) (tys := tysO Γ.2.2.1) (D := Γ.2.1) hc.1 hc.2.1 hE.2.1 hRep.1 a 3 ((wsO_at ho).trans (congrArg (fun e => some (ad a, e)) (entE_arr hk))) rfl rfl hd (h p e s m args below meth cd H locs cells slots mc ms ls ad ad0 n0 R ⟨hc, hE, hS, hl, hRep, hoL, okS_c okv_i (okS_t hoS), hr, ha⟩)
  · exact va_alen (cl := vwCl) (tys := tysO Γ.2.2.1) (D := Γ.2.1) hc.1 hc.2.1 hE.2.1 hRep.1 a 4 ((wsO_at ho).trans (congrArg (fun e => some (ad a, e)) (entE_img hk))) rfl rfl hd (h p e s m args below meth cd H locs cells slots mc ms ls ad ad0 n0 R ⟨hc, hE, hS, hl, hRep, hoL, okS_c okv_i (okS_t hoS), hr, ha⟩)

/-! ===== throw new E("text"), out of a method ===== -/
def THW (own cls text : String) (names : List String) (ik is ic j : Nat) : Prop :=
  Bundle.fit cls = true ∧ (∀ n ∈ names, Bundle.fit n = true) ∧ Cond.classLink own ik cls ∈ uxW ∧ Cond.initialized cls ∈ uxW ∧ strTab[j]? = some (own, is, text) ∧ (∀ w ∈ (vx_atS own ic cls names).filter goodWord, w ∈ uxW) ∧ (∀ w ∈ (vx_atS own ic cls names).filter (fun w => !goodWord w), w ∈ cstW.map (fun q => Cond.castable q.1 q.2)) ∧ (∀ w ∈ Cond.classLink own ik cls :: Cond.initialized cls :: vx_atS own ic cls names, vx_ot w = true) ∧ names.length = 2
theorem X_throw {Γ : pTG} {d k n : Nat} {M : pMD} {pc : Nat} {L : List (Nat × Value)} {S : List Value} {g : pGG} {mi : pMI} {ml : pML} {Q : pQ} {cls text : String} {names : List String} {ik is ic j : Nat} (hT : THW M.1.cls cls text names ik is ic j)
    (d0 : decode M.2.1 pc = .ok (.new ik, 3)) (d3 : decode M.2.1 (pc + 3) = .ok (.dup, 1)) (d4 : decode M.2.1 (pc + 4) = .ok (.ldc_w is, 3)) (d7 : decode M.2.1 (pc + 7) = .ok (.invokespecial ic, 3)) (d10 : decode M.2.1 (pc + 10) = .ok (.athrow, 1))
    (hd : 6 ≤ d) (hk : 1 ≤ k) (hn : 6 ≤ n) (hcat : (S.map (fun v => v.category)).sum ≤ 8) (h : Q (.inr cls) g mi ml) : XW Γ d k n M pc L S g mi ml Q := by
  intro p e s m args below meth cd H locs cells slots mc ms ls ad ad0 n0 R P
  obtain ⟨hc, hE, hS, hl, hRep, hoL, hoS, hr, ha⟩ := P
  obtain ⟨t1, t2, t3, t4, t5, t6, t7, t8, t9⟩ := hT
  obtain ⟨hr1, hr2, hr3, hr4, hr5, hr6⟩ := id hr
  have hR := hE.2.2.2.2.2.2.2.2.1 j _ t5
  refine vx_throwSW (A := regA Γ) (names := names) hc.1 hc.2.1 hE.2.2.2.2.2.2.2.2.2 hc.2.2.2.1 t1 t2 (hc.2.2.2.2.1 _ t3) (hc.2.2.2.2.1 _ t4) hR (vx_hat (fun w hw => hc.2.2.2.2.1 _ (t6 w hw)) t7 (fun w hw => ?_)) t8 hE.2.2.2.2.2.1 hE.2.2.2.2.2.2.1 hS (hl.1.trans hc.2.2.1.symm) d0 d3 d4 d7 d10 (fun x hx => (hc.2.2.2.2.2.2.2.1 x hx).elim) (by rw [t9]; omega) (by rw [t9, catS]; omega) (by omega) (by omega) hc.2.2.2.2.2.2.1 (fun t hvm hz hk2 => ?_) hS.2.2 (by omega) (by omega)
  · obtain ⟨q, hq, rfl⟩ := List.mem_map.mp hw
    exact (hE.1.1 q hq).use rfl
  · refine ⟨⟨g, mi, ml, ad, h, ⟨hRep.1.kept (fun i q hq => hk2 q.1 (hRep.1 i q hq).lt), hRep.2⟩, ha⟩, Nat.le_trans hS.1 hz, fun q h1 h2 => ?_⟩
    rw [hk2 q (Nat.lt_of_lt_of_le h1 hS.1)]
    exact hS.2.1 q h1 h2
theorem thG : THW RX11 "java/util/NoSuchElementException" "no such guest" ["java/lang/RuntimeException", "java/lang/Exception"] 389 391 393 4 := by refine ⟨by decide +kernel, by decide +kernel, ?_, ?_, rfl, uxW_all (by decide +kernel), by decide +kernel, by decide +kernel, rfl⟩ <;> exact uxW_all (ws := [_]) (by decide +kernel) _ List.mem_cons_self
theorem thC : THW RX11 "java/util/NoSuchElementException" "no such chair" ["java/lang/RuntimeException", "java/lang/Exception"] 389 396 393 5 := by refine ⟨by decide +kernel, by decide +kernel, ?_, ?_, rfl, uxW_all (by decide +kernel), by decide +kernel, by decide +kernel, rfl⟩ <;> exact uxW_all (ws := [_]) (by decide +kernel) _ List.mem_cons_self
theorem thA : THW RX11 "java/lang/IllegalArgumentException" "a number that is none such" ["java/lang/RuntimeException", "java/lang/Exception"] 398 400 402 6 := by refine ⟨by decide +kernel, by decide +kernel, ?_, ?_, rfl, uxW_all (by decide +kernel), by decide +kernel, by decide +kernel, rfl⟩ <;> exact uxW_all (ws := [_]) (by decide +kernel) _ List.mem_cons_self
theorem thS : THW RX11 "java/lang/IllegalStateException" "more guests than mornings are sought for" ["java/lang/RuntimeException", "java/lang/Exception"] 403 405 407 7 := by refine ⟨by decide +kernel, by decide +kernel, ?_, ?_, rfl, uxW_all (by decide +kernel), by decide +kernel, by decide +kernel, rfl⟩ <;> exact uxW_all (ws := [_]) (by decide +kernel) _ List.mem_cons_self

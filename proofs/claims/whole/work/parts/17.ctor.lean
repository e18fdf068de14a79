/-! ===== constructors' calls, new int[n][m], stores of references ===== -/
theorem CT_met {Γ : pTG} {d k n : Nat} {M : pMD} {as : List Value} {g : pGG} {mi : pMI} {ml : pML} {Q : pQ} (h : CT Γ d k n M as g mi ml Q) (hx : ∀ E g mi ml, ¬ Q (.inr E) g mi ml) (ad : Nat → Nat) (hok : okS g as) : Met Γ.1 M.1 (wsM M) (rmD d k n) (PcM Γ ad g mi ml as) (QcM Γ Q ad g.1) k n (regA Γ) := by
  intro p e h1 h2 h3 s m args below h4 h5 h6 h7
  obtain ⟨n1, o, a1, a2, a3, a4⟩ := h ad hok p e h1 h2 h3 s m args below h4 h5 h6 h7
  refine ⟨n1, o, a1, a2, a3, ?_⟩
  rcases a4 with a4 | ⟨q, b0, E, ce, Lc, ⟨⟨g', mi', ml', ad', b1, b2⟩, b3⟩, b4⟩
  · exact a4
  · exact absurd b1 (hx _ _ _ _)
section XRUNI
variable {Γ : pTG} {p : Program} {e : Env} {R : Room} {s : State} {m : MethodId} {args : Array Value} {below : List Frame} {meth : Method} {c : Code} {H : Heap} {locs : List Loc} {cells slots k' n' pc : Nat} {ls : Array Slot} {st0 rest : List Value} {ad : Nat → Nat} {g : pGG} {Q' : pQ} {QF : State → Prop} {a : Array Value}
theorem xrunI (hr : va_Run p Γ.1 e R s m args below meth c H locs cells slots k' n' (F0 m pc ls st0) rest (QcM Γ Q' ad g.1 a) (regA Γ)) (hS : va_S (regA Γ) s.heap H locs)
    (kk : ∀ (v : Option Value) (g' : pGG) (mi' : pMI) (ml' : pML) (ad' : Nat → Nat) (H1 : Heap) (locs1 : List Loc), Q' (.inl v) g' mi' ml' → RepH Γ ad' g' mi' ml' H1 → (∀ i, i < g.1 → ad' i = ad i) → g.1 ≤ g'.1 → (∀ w, v = some w → okv g' w) → va_S (regA Γ) s.heap H1 locs1 → W p Γ.1 e R s m args below meth c H1 locs1 (cells + k') (slots + n') QF (F0 m (pc + 3) ls ((v.map (cv ad')).toList ++ rest))) :
    W p Γ.1 e R s m args below meth c H locs cells slots QF (F0 m pc ls st0) := by
  intro T hT X
  obtain ⟨v, st₀, t, T', L, h0, X', hL, e1, e2, ⟨⟨v0, g', mi', ml', ad', hv, hq, hRep, hag, hn, hok⟩, hF⟩, st⟩ := hr T hT X
  obtain ⟨k1, k2, k3⟩ := vx_keep h0 e1 hS (fun _ _ h => h) (fun _ h => h) hL hF
  cases hv
  obtain ⟨t2, a1, b1⟩ := kk v0 g' mi' ml' ad' T'.heap (locs ++ L) hq (by rw [e1]; exact hRep) hag hn hok k3 T' rfl X'
  exact ⟨t2, st t2 a1, b1⟩
end XRUNI
/-- a constructor's words -/
def MLI (own : String) (idx : Nat) (M' : pMD) (na : Nat) : Prop := M'.1.name = "<init>" ∧ M'.2.2.2 = none ∧ Cond.methodLink own idx M'.1 ∈ uxW ∧ Cond.instanceMethod M'.1 ∈ uxW ∧ Cond.initialized M'.1.cls ∈ uxW ∧ Cond.code M'.1 M'.2.1 M'.2.2.1 M'.2.2.2 ∈ uxW ∧ (M'.1.cls ≠ "java/lang/invoke/MethodHandle" ∧ M'.1.cls ≠ "java/lang/invoke/VarHandle" ∧ (parseMethodDescriptor M'.1.desc).map (fun d => d.parameters.length) = some na) ∧ M'.2.2.1 ≤ 29
def MLJ (own : String) (idx : Nat) (M' : pMD) (na : Nat) : Prop := M'.1.name = "<init>" ∧ M'.2.2.2 = none ∧ (own, idx, M'.1, "PoolTowels") ∈ nstW ∧ Cond.instanceMethod M'.1 ∈ uxW ∧ Cond.initialized M'.1.cls ∈ uxW ∧ Cond.code M'.1 M'.2.1 M'.2.2.1 M'.2.2.2 ∈ uxW ∧ (M'.1.cls ≠ "java/lang/invoke/MethodHandle" ∧ M'.1.cls ≠ "java/lang/invoke/VarHandle" ∧ (parseMethodDescriptor M'.1.desc).map (fun d => d.parameters.length) = some na) ∧ M'.2.2.1 ≤ 29
section CTOR
variable {Γ : pTG} {d k n : Nat} {M : pMD} {pc : Nat} {L : List (Nat × Value)} {S : List Value} {g : pGG} {mi : pMI} {ml : pML} {Q : pQ}
theorem X_callI {d' k' n' idx o na : Nat} {M' : pMD} {As S0 : List Value} {Q' : pQ} (hd : decode M.2.1 pc = .ok (.invokespecial idx, 3)) (hm : MLI M.1.cls idx M' na ∨ MLJ M.1.cls idx M' na) (hC : CT Γ d' k' n' M' (.ref o :: As) g mi ml Q') (hx : ∀ E g mi ml, ¬ Q' (.inr E) g mi ml) (hS0 : S0 = As.reverse ++ .ref o :: S) (hA : As.length = na) (hd' : d' + 1 ≤ d) (hk' : k' ≤ k) (hn' : n' ≤ n) (hcat : (S.map (fun v => v.category)).sum ≤ 8)
    (kk : ∀ v g' mi' ml', Q' (.inl v) g' mi' ml' → XW Γ d (k - k') (n - n') M (pc + 3) L (v.toList ++ S) g' mi' ml' Q) : XW Γ d k n M pc L S0 g mi ml Q := by
  intro p e s m args below meth cd H locs cells slots mc ms ls ad ad0 n0 R P
  obtain ⟨hc, hE, hS, hl, hRep, hoL, hoS, hr, ha⟩ := P
  subst hS0
  obtain ⟨hArev, hSk0⟩ := okS_app hoS
  have hSk := okS_t hSk0
  have hokA : okS g (.ref o :: As) := okS_c (okS_h hSk0) (fun v hv => hArev v (List.mem_reverse.mpr hv))
  obtain ⟨hr1, hr2, hr3, hr4, hr5, hr6⟩ := id hr
  have hgo : va_Run p Γ.1 e R s m args below meth cd H locs cells slots k' n' (F0 m pc ls ((As.reverse ++ .ref o :: S).map (cv ad))) (S.map (cv ad)) (QcM Γ Q' ad g.1 (Value.ref (ad o) :: As.map (cv ad)).toArray) (regA Γ) := by
    have hpre : PreS s H (PcM Γ ad g mi ml (.ref o :: As)) (.ref (ad o) :: As.map (cv ad)) := ⟨blindM, fun U hU hW => ⟨rfl, by rw [hU]; exact hRep, extS_warm hE hW hS hU⟩⟩
    have hstk : (F0 m pc ls ((As.reverse ++ .ref o :: S).map (cv ad))).stack = (As.map (cv ad)).reverse ++ .ref (ad o) :: S.map (cv ad) := by show (As.reverse ++ .ref o :: S).map (cv ad) = _; rw [List.map_append, List.map_reverse]; rfl
    rcases hm with ⟨q1, q2, q3, q4, q5, q6, q7, q8⟩ | ⟨q1, q2, q3, q4, q5, q6, q7, q8⟩
    · have hgi : GoodIn uxW (wsM M') := ugood fun w hw => by rcases List.mem_cons.mp hw with rfl | h; exact q6; exact h
      exact va_runI (As := As.map (cv ad)) (b := ad o) (n := na) (bytes := M'.2.1) (maxL := M'.2.2.1) ⟨hc.1, hc.2.1, hc.2.2.1, hc.2.2.2.1, hc.2.2.2.2.1⟩ (CT_met hC hx ad hokA)
        (cwI (ws' := uxW) na hc.2.2.2.2.1 hgi (by unfold wsM; rw [q2]) rfl rfl (hc.2.2.2.2.1 _ q5) (hc.2.2.2.2.1 _ q3) (hc.2.2.2.2.1 _ q4) q1 q7 ⟨by show d' + 1 ≤ R.frames; omega, by show 8 + (M'.2.2.1 + 11) + 50 * d' ≤ R.locals; omega⟩) hpre rfl (by rw [List.length_map]; exact hA) hl.1 hstk (lv_room (by rw [catS]; exact hcat)) hd ⟨by omega, by omega⟩
    · have hgi : GoodIn uxW (wsM M') := ugood fun w hw => by rcases List.mem_cons.mp hw with rfl | h; exact q6; exact h
      exact va_runIN (host := "PoolTowels") (As := As.map (cv ad)) (b := ad o) (n := na) (bytes := M'.2.1) (maxL := M'.2.2.1) ⟨hc.1, hc.2.1, hc.2.2.1, hc.2.2.2.1, hc.2.2.2.2.1⟩ (CT_met hC hx ad hokA)
        ⟨va_cnB (ws' := uxW) na hc.2.2.2.2.1 hgi (by unfold wsM; rw [q2]) rfl rfl (hE.1.2.2.2.2.1 _ q3) (hc.2.2.2.2.1 _ q5) q7 ⟨by show d' + 1 ≤ R.frames; omega, by show 8 + (M'.2.2.1 + 11) + 50 * d' ≤ R.locals; omega⟩, q1, hc.2.2.2.2.1 _ q4⟩ hpre rfl (by rw [List.length_map]; exact hA) hl.1 hstk (lv_room (by rw [catS]; exact hcat)) hd ⟨by omega, by omega⟩
  refine xrunI hgo hS (fun v g' mi' ml' ad' H1 locs1 hq hRep' hag hn hok hS1 => ?_)
  have h2 : ∀ j, ad' (999 + j) = ad (999 + j) := fun j => (hRep'.2.2.2.1 j).trans (hRep.2.2.2.1 j).symm
  have e1 : (v.map (cv ad')).toList ++ S.map (cv ad) = (v.toList ++ S).map (cv ad') := by rw [List.map_append, cvS hSk hag h2]; cases v <;> rfl
  rw [e1]
  refine kk v g' mi' ml' hq p e s m args below meth cd H1 locs1 (cells + k') (slots + n') mc ms ls ad' ad0 n0 R ⟨hc, hE, hS1, ?_, hRep', fun q h => okv_up (hoL q h) hn, ?_, ?_, fun i hi => (hag i (Nat.lt_of_lt_of_le hi ha.2)).trans (ha.1 i hi), Nat.le_trans ha.2 hn⟩
  · rw [cvL hoL hag h2]; exact hl
  · intro x hx
    rcases List.mem_append.mp hx with hx | hx
    · cases v with
      | none => cases hx
      | some y => cases hx with
        | head => exact hok _ rfl
        | tail _ h => cases h
    · exact okv_up (hSk x hx) hn
  · exact ⟨by omega, by omega, hr.2.2.1, hr.2.2.2.1, hr.2.2.2.2⟩
def OIW (own : String) (idx : Nat) : Prop := Cond.methodLink own idx Lib.objectInit ∈ uxW ∧ Cond.instanceMethod Lib.objectInit ∈ uxW ∧ Cond.code Lib.objectInit ⟨#[0xb1]⟩ 1 none ∈ uxW
theorem X_objInit {idx o : Nat} (hd : decode M.2.1 pc = .ok (.invokespecial idx, 3)) (hw : OIW M.1.cls idx) (h1 : 1 ≤ d) (hcat : (S.map (fun v => v.category)).sum ≤ 8) (h : XW Γ d k n M (pc + 3) L S g mi ml Q) : XW Γ d k n M pc L (.ref o :: S) g mi ml Q := by
  intro p e s m args below meth cd H locs cells slots mc ms ls ad ad0 n0 R P
  obtain ⟨hc, hE, hS, hl, hRep, hoL, hoS, hr, ha⟩ := P
  obtain ⟨hr1, hr2, hr3, hr4, hr5, hr6⟩ := id hr
  have hroom := lv_room (m := m) (pc := pc) (ls := ls) (rest := (Value.ref o :: S).map (cv ad)) (st := S.map (cv ad)) (by rw [catS]; exact hcat)
  exact W.objInit (g := F0 m pc ls ((Value.ref o :: S).map (cv ad))) (rest := S.map (cv ad)) hc.1 hc.2.1 hc.2.2.2.1 (hc.2.2.2.2.1 _ hw.1) (hc.2.2.2.2.1 _ hw.2.1) (hc.2.2.2.2.1 _ hw.2.2) rfl (hl.1.trans hc.2.2.1.symm) (a := ad o) rfl hd (by omega) (by omega) (h p e s m args below meth cd H locs cells slots mc ms ls ad ad0 n0 R ⟨hc, hE, hS, hl, hRep, hoL, okS_t hoS, hr, ha⟩)
theorem X_aast {a len v z : Nat} {i : Int32} (j : Nat) (hd : decode M.2.1 pc = .ok (.aastore, 1)) (hk : g.2.1 a = (24, len)) (hv : g.2.1 v = (7, z)) (hi : i = nI j) (hj : j < len) (h : XW Γ d k n M (pc + 1) L S (g.1, g.2.1, up2 g.2.2 a j (some v)) mi ml Q) : XW Γ d k n M pc L (.ref v :: .int i :: .ref a :: S) g mi ml Q := by
  intro p e s m args below meth cd H locs cells slots mc ms ls ad ad0 n0 R P
  obtain ⟨hc, hE, hS, hl, hRep, hoL, hoS, hr, ha⟩ := P
  have ho := hRep.lt hk (by decide)
  have hov := hRep.lt hv (by decide)
  obtain ⟨hin, hcl⟩ := nI_ix hi hj (hRep.len hk)
  refine va_astq (cl := vwCl) (tys := tysO Γ.2.2.1) (D := Γ.2.1) (r := (RX7, TX7, 7)) hc.1 hc.2.1 hE.2.1 hRep.1 hRep.2.1 hS a 4 v 7 ((wsO_at ho).trans (by rw [entE_img hk])) rfl (wsO_obj hov hv (by decide)) rfl hin hd (fun H1 locs1 hP1 hD1 hS1 => ?_)
  have e0 : (wsO Γ.2.2.1 ad g mi ml).set a (ad a, .inl (Γ.2.2.1 4, len, .inr (.inr (.inr (.inr (va_up (fun j => (g.2.2 a j).map ad) j (some (ad v)))))))) = wsO Γ.2.2.1 ad (g.1, g.2.1, up2 g.2.2 a j (some v)) mi ml := by
    refine wsO_set ho rfl ?_ (fun i hi => entE_mr (up2_row hi))
    rw [entE_img (g := (g.1, g.2.1, up2 g.2.2 a j (some v))) hk]
    refine congrArg (fun f => (Sum.inl (Γ.2.2.1 4, len, Sum.inr (Sum.inr (Sum.inr (Sum.inr f)))) : va_E)) (funext fun b => ?_)
    show (up2 g.2.2 a j (some v) a b).map ad = _
    by_cases e : b = j
    · subst e; rw [up2_s]; simp [va_up]
    · rw [up2_n e]; simp [va_up, e]
  rw [hcl, e0] at hP1 hD1
  exact h p e s m args below meth cd H1 locs1 cells slots mc ms ls ad ad0 n0 R ⟨hc, hE, hS1, hl, hRep.mr (fun b hb => by cases hb; exact hov) hP1 hD1, hoL, okS_t (okS_t (okS_t hoS)), hr, ha⟩
end CTOR

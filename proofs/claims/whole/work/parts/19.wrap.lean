/-! ===== the law's wrappers: methods with a table of handlers ===== -/
def wsH (M : pMD) (hh : List (Nat × Nat × Nat × Nat)) : List Cond := Cond.codeWith M.1 M.2.1 M.2.2.1 M.2.2.2 hh :: uxW
def CTH (Γ : pTG) (d k n : Nat) (M : pMD) (hh : List (Nat × Nat × Nat × Nat)) (args : List Value) (g : pGG) (mi : pMI) (ml : pML) (Q : pQ) : Prop :=
  ∀ ad : Nat → Nat, okS g args → vx_Met Γ.1 M.1 (wsH M hh) (rmD d k n) (PcM Γ ad g mi ml args) (QcM Γ Q ad g.1) (XcM Γ Q ad g.1) k n (regA Γ)
def TP (Γ : pTG) (hh : List (Nat × Nat × Nat × Nat)) (d k n : Nat) (M : pMD) (L : List (Nat × Value)) (S : List Value) (g : pGG) (mi : pMI) (ml : pML) (p : Program) (s : State) (m : MethodId) (args : Array Value) (meth : Method) (c : Code) (H : Heap) (locs : List Loc) (cells slots mc ms : Nat) (ls : Array Slot) (ad ad0 : Nat → Nat) (n0 : Nat) (R : Room) : Prop :=
  (p.tables.exec = Jvm.exec ∧ c.code = M.2.1 ∧ c.maxLocals = M.2.2.1 ∧ s.vm.findClass M.1.cls = some m.cls ∧ (∀ w ∈ uxW, w.before args s = true) ∧ meth.sig.returnType = M.2.2.2 ∧ meth.locks = false ∧ c.exceptionTable.toList = tableOf hh) ∧
  extS Γ s ∧ va_S (regA Γ) s.heap H locs ∧ lv_has ls M.2.2.1 (L.map (fun q => (q.1, cv ad q.2))) ∧ RepH Γ ad g mi ml H ∧ okL g L ∧ okS g S ∧ (cells + k ≤ mc ∧ slots + n ≤ ms ∧ mc ≤ R.cells ∧ ms ≤ R.slots ∧ d ≤ R.frames ∧ 50 * d ≤ R.locals) ∧ ((∀ i, i < n0 → ad i = ad0 i) ∧ n0 ≤ g.1)
def TW (Γ : pTG) (hh : List (Nat × Nat × Nat × Nat)) (d k n : Nat) (M : pMD) (pc : Nat) (L : List (Nat × Value)) (S : List Value) (g : pGG) (mi : pMI) (ml : pML) (Q : pQ) : Prop :=
  ∀ (p : Program) (e : Env) (s : State) (m : MethodId) (args : Array Value) (below : List Frame) (meth : Method) (c : Code) (H : Heap) (locs : List Loc) (cells slots mc ms : Nat) (ls : Array Slot) (ad ad0 : Nat → Nat) (n0 : Nat) (R : Room),
    TP Γ hh d k n M L S g mi ml p s m args meth c H locs cells slots mc ms ls ad ad0 n0 R →
    W p Γ.1 e R s m args below meth c H locs cells slots (vx_MQ below (QcM Γ Q ad0 n0) (XcM Γ Q ad0 n0) args s mc ms (regA Γ)) (F0 m pc ls (S.map (cv ad)))
theorem CTH_of {Γ : pTG} {d k n : Nat} {M : pMD} {hh : List (Nat × Nat × Nat × Nat)} {as : List Value} {g : pGG} {mi : pMI} {ml : pML} {Q : pQ} (hy : plainName M.1.cls = true) (hl : (lg_sl as).length ≤ M.2.2.1) (h : TW Γ hh d k n M 0 (lv_args 0 as) [] g mi ml Q) : CTH Γ d k n M hh as g mi ml Q := by
  intro ad hok
  refine vx_ofWH (cc := M.2.1) (maxL := M.2.2.1) (ret := M.2.2.2) hy rfl ?_
  intro p e s m args below meth c s₁ B hml hv
  obtain ⟨rfl, hRep, hExt⟩ := hv
  have hts := atoms_spec (ws := wsH M hh) B.pre
  have hown : s.vm.findClass M.1.cls = some m.cls := findClass_of_methodNamed B.named
  have hl2 := lv_entry (as.map (cv ad)) (n := M.2.2.1) (by rw [lg_sl_len]; exact hl)
  rw [lg_entry_eq]
  rw [lv_args_map] at hl2
  exact h p e s m _ below meth c s.heap [] 0 0 k n _ ad ad g.1 _ ⟨⟨B.exec, B.bytes, hml, hown, fun w hw => hts w (List.mem_cons_of_mem _ hw), B.returns, B.notSynchronized, vx_table (x := M.1) B (hts _ List.mem_cons_self)⟩, hExt, va_S.rf, hl2, hRep, lv_args_ok _ _ hok, List.forall_mem_nil _, ⟨Nat.le_of_eq (Nat.zero_add k), Nat.le_of_eq (Nat.zero_add n), Nat.le_refl _, Nat.le_refl _, Nat.le_refl _, Nat.le_refl _⟩, ⟨fun _ _ => rfl, Nat.le_refl _⟩⟩
theorem T_iconst {Γ : pTG} {hh : List (Nat × Nat × Nat × Nat)} {d k n : Nat} {M : pMD} {pc : Nat} {L : List (Nat × Value)} {S : List Value} {g : pGG} {mi : pMI} {ml : pML} {Q : pQ} {z : Int} {v : Int32} (hd : decode M.2.1 pc = .ok (.iconst z, 1)) (hv : Int32.ofInt z = v) (h : TW Γ hh d k n M (pc + 1) L (.int v :: S) g mi ml Q) : TW Γ hh d k n M pc L S g mi ml Q := by
  intro p e s m args below meth c H locs cells slots mc ms ls ad ad0 n0 R P
  obtain ⟨hc, hE, hS, hl, hRep, hoL, hoS, hr, ha⟩ := P
  exact lv_iconst hc.1 hc.2.1 hd hv (h p e s m args below meth c H locs cells slots mc ms ls ad ad0 n0 R ⟨hc, hE, hS, hl, hRep, hoL, okS_c okv_i hoS, hr, ha⟩)
theorem T_iload_n {Γ : pTG} {hh : List (Nat × Nat × Nat × Nat)} {d k n : Nat} {M : pMD} {pc : Nat} {L : List (Nat × Value)} {S : List Value} {g : pGG} {mi : pMI} {ml : pML} {Q : pQ} {j : Fin 4} {x : Int32} (hd : decode M.2.1 pc = .ok (.iload_n j, 1)) (hL : ldL L j.val = some (.int x)) (h : TW Γ hh d k n M (pc + 1) L (.int x :: S) g mi ml Q) : TW Γ hh d k n M pc L S g mi ml Q := by
  intro p e s m args below meth c H locs cells slots mc ms ls ad ad0 n0 R P
  obtain ⟨hc, hE, hS, hl, hRep, hoL, hoS, hr, ha⟩ := P
  exact lv_iload_n hc.1 hc.2.1 hd rfl (lv_ld hl hL) (h p e s m args below meth c H locs cells slots mc ms ls ad ad0 n0 R ⟨hc, hE, hS, hl, hRep, hoL, okS_c okv_i hoS, hr, ha⟩)
theorem T_iload {Γ : pTG} {hh : List (Nat × Nat × Nat × Nat)} {d k n : Nat} {M : pMD} {pc : Nat} {L : List (Nat × Value)} {S : List Value} {g : pGG} {mi : pMI} {ml : pML} {Q : pQ} {j : Nat} {x : Int32} (hd : decode M.2.1 pc = .ok (.iload j, 2)) (hL : ldL L j = some (.int x)) (h : TW Γ hh d k n M (pc + 2) L (.int x :: S) g mi ml Q) : TW Γ hh d k n M pc L S g mi ml Q := by
  intro p e s m args below meth c H locs cells slots mc ms ls ad ad0 n0 R P
  obtain ⟨hc, hE, hS, hl, hRep, hoL, hoS, hr, ha⟩ := P
  exact lv_iload hc.1 hc.2.1 hd (lv_ld hl hL) (h p e s m args below meth c H locs cells slots mc ms ls ad ad0 n0 R ⟨hc, hE, hS, hl, hRep, hoL, okS_c okv_i hoS, hr, ha⟩)
theorem T_aload_n {Γ : pTG} {hh : List (Nat × Nat × Nat × Nat)} {d k n : Nat} {M : pMD} {pc : Nat} {L : List (Nat × Value)} {S : List Value} {g : pGG} {mi : pMI} {ml : pML} {Q : pQ} {j : Fin 4} {x : Nat} (hd : decode M.2.1 pc = .ok (.aload_n j, 1)) (hL : ldL L j.val = some (.ref x)) (h : TW Γ hh d k n M (pc + 1) L (.ref x :: S) g mi ml Q) : TW Γ hh d k n M pc L S g mi ml Q := by
  intro p e s m args below meth c H locs cells slots mc ms ls ad ad0 n0 R P
  obtain ⟨hc, hE, hS, hl, hRep, hoL, hoS, hr, ha⟩ := P
  exact lv_aload_n hc.1 hc.2.1 hd rfl (lv_ld hl hL) (h p e s m args below meth c H locs cells slots mc ms ls ad ad0 n0 R ⟨hc, hE, hS, hl, hRep, hoL, okS_c (hoL _ (ldL_mem hL)) hoS, hr, ha⟩)
theorem T_aload {Γ : pTG} {hh : List (Nat × Nat × Nat × Nat)} {d k n : Nat} {M : pMD} {pc : Nat} {L : List (Nat × Value)} {S : List Value} {g : pGG} {mi : pMI} {ml : pML} {Q : pQ} {j : Nat} {x : Nat} (hd : decode M.2.1 pc = .ok (.aload j, 2)) (hL : ldL L j = some (.ref x)) (h : TW Γ hh d k n M (pc + 2) L (.ref x :: S) g mi ml Q) : TW Γ hh d k n M pc L S g mi ml Q := by
  intro p e s m args below meth c H locs cells slots mc ms ls ad ad0 n0 R P
  obtain ⟨hc, hE, hS, hl, hRep, hoL, hoS, hr, ha⟩ := P
  exact lv_aload hc.1 hc.2.1 hd (lv_ld hl hL) (h p e s m args below meth c H locs cells slots mc ms ls ad ad0 n0 R ⟨hc, hE, hS, hl, hRep, hoL, okS_c (hoL _ (ldL_mem hL)) hoS, hr, ha⟩)
theorem T_i2l {Γ : pTG} {hh : List (Nat × Nat × Nat × Nat)} {d k n : Nat} {M : pMD} {pc : Nat} {L : List (Nat × Value)} {S : List Value} {g : pGG} {mi : pMI} {ml : pML} {Q : pQ} {x : Int32} (hd : decode M.2.1 pc = .ok (.i2l, 1)) (h : TW Γ hh d k n M (pc + 1) L (.long x.toInt64 :: S) g mi ml Q) : TW Γ hh d k n M pc L (.int x :: S) g mi ml Q := by
  intro p e s m args below meth c H locs cells slots mc ms ls ad ad0 n0 R P
  obtain ⟨hc, hE, hS, hl, hRep, hoL, hoS, hr, ha⟩ := P
  exact lv_i2l hc.1 hc.2.1 hd rfl (h p e s m args below meth c H locs cells slots mc ms ls ad ad0 n0 R ⟨hc, hE, hS, hl, hRep, hoL, okS_c okv_l (okS_t hoS), hr, ha⟩)
theorem T_goto {Γ : pTG} {hh : List (Nat × Nat × Nat × Nat)} {d k n : Nat} {M : pMD} {pc : Nat} {L : List (Nat × Value)} {S : List Value} {g : pGG} {mi : pMI} {ml : pML} {Q : pQ} {off : Int} (tgt : Nat) (hd : decode M.2.1 pc = .ok (.goto off, 3)) (ht : (pc : Int) + off = (tgt : Int)) (h : TW Γ hh d k n M tgt L S g mi ml Q) : TW Γ hh d k n M pc L S g mi ml Q := by
  intro p e s m args below meth c H locs cells slots mc ms ls ad ad0 n0 R P
  obtain ⟨hc, hE, hS, hl, hRep, hoL, hoS, hr, ha⟩ := P
  exact lv_goto hc.1 hc.2.1 hd ht (h p e s m args below meth c H locs cells slots mc ms ls ad ad0 n0 R ⟨hc, hE, hS, hl, hRep, hoL, hoS, hr, ha⟩)
theorem T_last {Γ : pTG} {hh : List (Nat × Nat × Nat × Nat)} {d k n : Nat} {M : pMD} {pc : Nat} {L : List (Nat × Value)} {S : List Value} {g : pGG} {mi : pMI} {ml : pML} {Q : pQ} {a len : Nat} {i : Int32} {x : Int64} (j : Nat) (hd : decode M.2.1 pc = .ok (.lastore, 1)) (hk : g.2.1 a = (21, len)) (hi : i = nI j) (hj : j < len) (h : TW Γ hh d k n M (pc + 1) L S g mi (up2 ml a j x) Q) : TW Γ hh d k n M pc L (.long x :: .int i :: .ref a :: S) g mi ml Q := by
  intro p e s m args below meth c H locs cells slots mc ms ls ad ad0 n0 R P
  obtain ⟨hc, hE, hS, hl, hRep, hoL, hoS, hr, ha⟩ := P
  have ho := hRep.lt hk (by decide)
  obtain ⟨hin, hcl⟩ := nI_ix hi hj (hRep.len hk)
  refine va_last (cl := vwCl) (tys := tysO Γ.2.2.1) (D := Γ.2.1) hc.1 hc.2.1 hE.2.1 hRep.1 hRep.2.1 hS a 1 ((wsO_at ho).trans (by rw [entE_long hk])) rfl hin hd (fun H1 locs1 hP1 hD1 hS1 => ?_)
  rw [hcl, wsO_arrl ho hk] at hP1 hD1
  exact h p e s m args below meth c H1 locs1 cells slots mc ms ls ad ad0 n0 R ⟨hc, hE, hS1, hl, hRep.mi hP1 hD1, hoL, okS_t (okS_t (okS_t hoS)), hr, ha⟩
theorem T_iret {Γ : pTG} {hh : List (Nat × Nat × Nat × Nat)} {d k n : Nat} {M : pMD} {pc : Nat} {L : List (Nat × Value)} {g : pGG} {mi : pMI} {ml : pML} {Q : pQ} {x : Int32} (hd : decode M.2.1 pc = .ok (.ireturn, 1)) (hr0 : M.2.2.2 = some .int) (h : Q (.inl (some (.int x))) g mi ml) : TW Γ hh d k n M pc L [.int x] g mi ml Q := by
  intro p e s m args below meth c H locs cells slots mc ms ls ad ad0 n0 R P
  obtain ⟨hc, hE, hS, hl, hRep, hoL, hoS, hr, ha⟩ := P
  refine W.widen (Nat.le_trans (Nat.le_add_right _ _) hr.1) (Nat.le_trans (Nat.le_add_right _ _) hr.2.1) (vx_ret (W.iret hc.1 hc.2.1 (hc.2.2.2.2.2.1.trans hr0) (fun t ht hW => ⟨⟨(some (.int x)), g, mi, ml, ad, rfl, h, by rw [ht]; exact hRep, ha.1, ha.2, fun w hw => by cases hw; exact okv_i⟩, va_S.F hS ht⟩) hS.2.2 hd hc.2.2.2.2.2.2.1))
/-- E, thrown at pc, is caught by a row of the table, and v comes back -/
def HDL (M : pMD) (hh : List (Nat × Nat × Nat × Nat)) (pc : Nat) (E : String) (v : Nat) : Prop := ∃ (pre : List ExceptionTableEntry) (x : ExceptionTableEntry) (suf : List ExceptionTableEntry) (name : String), tableOf hh = pre ++ x :: suf ∧ (∀ z ∈ pre, z.catchType ≠ 0 ∧ ∃ nm : String, Cond.classLink M.1.cls z.catchType nm ∈ uxW ∧ (E, nm) ∈ ncW) ∧ covers x pc = true ∧ x.catchType ≠ 0 ∧ Cond.classLink M.1.cls x.catchType name ∈ uxW ∧ (E, name) ∈ cstW ∧ M.2.2.2 = some .int ∧
  ((∃ j : Fin 4, j.val < M.2.2.1 ∧ decode M.2.1 x.handlerPc = .ok (.astore_n j, 1) ∧ decode M.2.1 (x.handlerPc + 1) = .ok (.iconst (v : Int), 1) ∧ decode M.2.1 (x.handlerPc + 1 + 1) = .ok (.ireturn, 1)) ∨ (∃ j : Nat, j < M.2.2.1 ∧ decode M.2.1 x.handlerPc = .ok (.astore j, 2) ∧ decode M.2.1 (x.handlerPc + 2) = .ok (.iconst (v : Int), 1) ∧ decode M.2.1 (x.handlerPc + 2 + 1) = .ok (.ireturn, 1)))
theorem T_callV {Γ : pTG} {hh : List (Nat × Nat × Nat × Nat)} {d k n : Nat} {M : pMD} {pc : Nat} {L : List (Nat × Value)} {S : List Value} {g : pGG} {mi : pMI} {ml : pML} {Q : pQ} {d' k' n' idx o c z na : Nat} {M' : pMD} {As S0 : List Value} {Q' : pQ} (hd : decode M.2.1 pc = .ok (.invokevirtual idx, 3)) (hm : MLV M.1.cls idx M' c na) (hk : g.2.1 o = (c, z)) (hC : CT Γ d' k' n' M' (.ref o :: As) g mi ml Q') (hS0 : S0 = As.reverse ++ .ref o :: S) (hA : As.length = na) (hd' : d' + 1 ≤ d) (hk' : k' ≤ k) (hn' : n' ≤ n) (hcat : (S.map (fun v => v.category)).sum ≤ 8)
    (kx : ∀ E g' mi' ml', Q' (.inr E) g' mi' ml' → ∃ v : Nat, HDL M hh pc E v ∧ Q (.inl (some (.int (Int32.ofInt v)))) g' mi' ml') (kk : ∀ v g' mi' ml', Q' (.inl v) g' mi' ml' → TW Γ hh d (k - k') (n - n') M (pc + 3) L (v.toList ++ S) g' mi' ml' Q) : TW Γ hh d k n M pc L S0 g mi ml Q := by
  intro p e s m args below meth cd H locs cells slots mc ms ls ad ad0 n0 R P
  obtain ⟨hc, hE, hS, hl, hRep, hoL, hoS, hr, ha⟩ := P
  subst hS0
  obtain ⟨hc13, hcl0, hws, hdd, hmx⟩ := hm
  have ho := hRep.lt hk (by omega)
  obtain ⟨hArev, hSk0⟩ := okS_app hoS
  have hSk := okS_t hSk0
  have hokA : okS g (.ref o :: As) := okS_c (okS_h hSk0) (fun v hv => hArev v (List.mem_reverse.mpr hv))
  obtain ⟨hr1, hr2, hr3, hr4, hr5, hr6⟩ := id hr
  have hgi : GoodIn uxW (wsV M.1.cls idx (RC c) M'.1 (wsM M')) := ugood fun w hw => by
    rcases List.mem_append.mp hw with h | h
    · exact hws w (List.mem_append_left _ h)
    · rcases List.mem_cons.mp h with rfl | h
      · exact hws _ (List.mem_append_right _ List.mem_cons_self)
      · exact h
  have hrun := vx_runV (H := H) (locs := locs) (cells := cells) (slots := slots) (below := below) (e := e) (meth := meth) (R := R) (g := F0 m pc ls ((As.reverse ++ .ref o :: S).map (cv ad))) (rest := S.map (cv ad)) (As := As.map (cv ad)) (b := ad o) (C := RC c) (n := na) (bytes := M'.2.1) (maxL := M'.2.2.1) (ret := M'.2.2.2)
    ⟨hc.1, hc.2.1, hc.2.2.1, hc.2.2.2.1, hc.2.2.2.2.1⟩ (hC ad hokA) (cwV na hc.2.2.2.2.1 hgi rfl rfl rfl ⟨hcl0, hdd⟩ ⟨by show d' + 1 ≤ R.frames; omega, by show 8 + (M'.2.2.1 + 11) + 50 * d' ≤ R.locals; omega⟩)
    ⟨blindM, va_recv hE.2.1 hRep.1 (clsA hc13).1 (wsO_obj ho hk hc13), fun U hU hW => ⟨rfl, by rw [hU]; exact hRep, extS_warm hE hW hS hU⟩⟩ rfl (by rw [List.length_map]; exact hA) hl.1 (by show (As.reverse ++ .ref o :: S).map (cv ad) = _; rw [List.map_append, List.map_reverse]; rfl) (lv_room (by rw [catS]; exact hcat)) hd ⟨by omega, by omega⟩
  refine xrun hrun hS (fun v g' mi' ml' ad' H1 locs1 hq hRep' hag hn hok hS1 => ?_) (fun E g' mi' ml' ad' H1 locs1 q9 ce hq hRep' hag hn hS1 hce hcv hcl => ?_)
  · have h2 : ∀ j, ad' (999 + j) = ad (999 + j) := fun j => (hRep'.2.2.2.1 j).trans (hRep.2.2.2.1 j).symm
    have e1 : (v.map (cv ad')).toList ++ S.map (cv ad) = (v.toList ++ S).map (cv ad') := by rw [List.map_append, cvS hSk hag h2]; cases v <;> rfl
    rw [e1]
    refine kk v g' mi' ml' hq p e s m args below meth cd H1 locs1 (cells + k') (slots + n') mc ms ls ad' ad0 n0 R ⟨hc, hE, hS1, ?_, hRep', fun q h => okv_up (hoL q h) hn, ?_, ?_, fun i hi => (hag i (Nat.lt_of_lt_of_le hi ha.2)).trans (ha.1 i hi), Nat.le_trans ha.2 hn⟩
    · rw [cvL hoL hag h2]; exact hl
    · intro x hx
      rcases List.mem_append.mp hx with hx | hx
      · cases v with
        | none => cases hx
        | some y => cases hx with
          | head => exact hok _ rfl
          | tail _ h => cases h
      · exact okv_up (hSk x hx) hn
    · exact ⟨by omega, by omega, hr.2.2.1, hr.2.2.2.1, hr.2.2.2.2⟩
  · obtain ⟨v, ⟨pre, x, suf, name, t1, t2, t3, t4, t5, t6, t7, t8⟩, hQ⟩ := kx E g' mi' ml' hq
    refine vx_catch hc.2.2.2.1 pre x suf (hc.2.2.2.2.2.2.2.trans t1) (fun z hz => Or.inr ⟨(t2 z hz).1, ?_⟩) t3 t4 (hc.2.2.2.2.1 _ t5) ((hE.1.2.2.2.1 _ t6).use rfl) hce hcv hcl ?_
    · obtain ⟨nm, u1, u2⟩ := (t2 z hz).2
      exact ⟨nm, hc.2.2.2.2.1 _ u1, hE.1.2.2.2.2.2 _ u2⟩
    · have fin : ∀ (ls' : Array Slot) (pc' : Nat), decode M.2.1 pc' = .ok (.ireturn, 1) → W p Γ.1 e R s m args below meth cd H1 locs1 (cells + k') (slots + n') (vx_MQ below (QcM Γ Q ad0 n0) (XcM Γ Q ad0 n0) args s mc ms (regA Γ)) (F0 m pc' ls' [.int (Int32.ofInt v)]) := fun ls' pc' hd' =>
        W.widen (by omega) (by omega) (vx_ret (W.iret hc.1 hc.2.1 (hc.2.2.2.2.2.1.trans t7) (fun t ht hW => ⟨⟨some (.int (Int32.ofInt v)), g', mi', ml', ad', rfl, hQ, by rw [ht]; exact hRep', fun i hi => (hag i (Nat.lt_of_lt_of_le hi ha.2)).trans (ha.1 i hi), Nat.le_trans ha.2 hn, fun w hw => by cases hw; exact okv_i⟩, va_S.F hS1 ht⟩) hS1.2.2 hd' hc.2.2.2.2.2.2.1))
      rcases t8 with ⟨j, w1, w2, w3, w4⟩ | ⟨j, w1, w2, w3, w4⟩
      · exact lv_astore_n hc.1 hc.2.1 w2 rfl hl w1 rfl (fun ls' hl' => lv_iconst hc.1 hc.2.1 w3 rfl (fin ls' _ w4))
      · exact lv_astore hc.1 hc.2.1 w2 hl w1 rfl (fun ls' hl' => lv_iconst hc.1 hc.2.1 w3 rfl (fin ls' _ w4))

def MLH (own : String) (idx : Nat) (M' : pMD) (hh : List (Nat × Nat × Nat × Nat)) (na : Nat) : Prop := (∀ w ∈ va_wsS own idx M'.1 [Cond.codeWith M'.1 M'.2.1 M'.2.2.1 M'.2.2.2 hh], w ∈ uxW) ∧ (M'.1.cls ≠ "java/lang/invoke/MethodHandle" ∧ M'.1.cls ≠ "java/lang/invoke/VarHandle" ∧ (parseMethodDescriptor M'.1.desc).map (fun d => d.parameters.length) = some na) ∧ M'.2.2.1 ≤ 29
theorem X_callH {Γ : pTG} {d k n : Nat} {M : pMD} {pc : Nat} {L : List (Nat × Value)} {S : List Value} {g : pGG} {mi : pMI} {ml : pML} {Q : pQ} {hh : List (Nat × Nat × Nat × Nat)} {d' k' n' idx na : Nat} {M' : pMD} {As S0 : List Value} {Q' : pQ} (hd : decode M.2.1 pc = .ok (.invokestatic idx, 3)) (hm : MLH M.1.cls idx M' hh na) (hC : CTH Γ d' k' n' M' hh As g mi ml Q') (hS0 : S0 = As.reverse ++ S) (hA : As.length = na) (hd' : d' + 1 ≤ d) (hk' : k' ≤ k) (hn' : n' ≤ n) (hcat : (S.map (fun v => v.category)).sum ≤ 8)
    (kx : ∀ E g' mi' ml', Q' (.inr E) g' mi' ml' → Q (.inr E) g' mi' ml') (kk : ∀ v g' mi' ml', Q' (.inl v) g' mi' ml' → XW Γ d (k - k') (n - n') M (pc + 3) L (v.toList ++ S) g' mi' ml' Q) : XW Γ d k n M pc L S0 g mi ml Q := by
  intro p e s m args below meth cd H locs cells slots mc ms ls ad ad0 n0 R P
  obtain ⟨hc, hE, hS, hl, hRep, hoL, hoS, hr, ha⟩ := P
  subst hS0
  obtain ⟨hws, hdd, hmx⟩ := hm
  obtain ⟨hArev, hSk⟩ := okS_app hoS
  have hokA : okS g As := fun v hv => hArev v (List.mem_reverse.mpr hv)
  obtain ⟨hr1, hr2, hr3, hr4, hr5, hr6⟩ := id hr
  have hgi : GoodIn uxW (va_wsS M.1.cls idx M'.1 (wsH M' hh)) := ugood fun w hw => by
    rcases List.mem_append.mp hw with h | h
    · exact hws w (List.mem_append_left _ h)
    · rcases List.mem_cons.mp h with rfl | h
      · exact hws _ (List.mem_append_right _ List.mem_cons_self)
      · exact h
  have hrun := vx_runSX (H := H) (locs := locs) (cells := cells) (slots := slots) (below := below) (e := e) (meth := meth) (R := R) (g := F0 m pc ls ((As.reverse ++ S).map (cv ad))) (rest := S.map (cv ad)) (As := As.map (cv ad)) (n := na) (bytes := M'.2.1) (maxL := M'.2.2.1) (ret := M'.2.2.2) (hh := hh)
    ⟨hc.1, hc.2.1, hc.2.2.1, hc.2.2.2.1, hc.2.2.2.2.1⟩ (hC ad hokA) (vx_cwSW na hc.2.2.2.2.1 hgi rfl rfl rfl hdd ⟨by show d' + 1 ≤ R.frames; omega, by show 8 + (M'.2.2.1 + 11) + 50 * d' ≤ R.locals; omega⟩)
    ⟨blindM, fun U hU hW => ⟨rfl, by rw [hU]; exact hRep, extS_warm hE hW hS hU⟩⟩ rfl (by rw [List.length_map]; exact hA) hl.1 (by show (As.reverse ++ S).map (cv ad) = _; rw [List.map_append, List.map_reverse]) (lv_room (by rw [catS]; exact hcat)) hd ⟨by omega, by omega⟩
  refine xrun hrun hS (fun v g' mi' ml' ad' H1 locs1 hq hRep' hag hn hok hS1 => ?_) (fun E g' mi' ml' ad' H1 locs1 q9 ce hq hRep' hag hn hS1 hce hcv hcl => ?_)
  · have h2 : ∀ j, ad' (999 + j) = ad (999 + j) := fun j => (hRep'.2.2.2.1 j).trans (hRep.2.2.2.1 j).symm
    have e1 : (v.map (cv ad')).toList ++ S.map (cv ad) = (v.toList ++ S).map (cv ad') := by rw [List.map_append, cvS hSk hag h2]; cases v <;> rfl
    rw [e1]
    refine kk v g' mi' ml' hq p e s m args below meth cd H1 locs1 (cells + k') (slots + n') mc ms ls ad' ad0 n0 R ⟨hc, hE, hS1, ?_, hRep', fun q h => okv_up (hoL q h) hn, ?_, ?_, fun i hi => (hag i (Nat.lt_of_lt_of_le hi ha.2)).trans (ha.1 i hi), Nat.le_trans ha.2 hn⟩
    · rw [cvL hoL hag h2]; exact hl
    · intro x hx
      rcases List.mem_append.mp hx with hx | hx
      · cases v with
        | none => cases hx
        | some y => cases hx with
          | head => exact hok _ rfl
          | tail _ h => cases h
      · exact okv_up (hSk x hx) hn
    · exact ⟨by omega, by omega, hr.2.2.1, hr.2.2.2.1, hr.2.2.2.2⟩
  · refine vx_out (fun x hx => (hc.2.2.2.2.2.2.2.1 x hx).elim) hc.2.2.2.2.2.2.1 hce hcv hcl (fun t ht hvm => ⟨⟨g', mi', ml', ad', kx E g' mi' ml' hq, by rw [ht]; exact hRep', fun i hi => (hag i (Nat.lt_of_lt_of_le hi ha.2)).trans (ha.1 i hi), Nat.le_trans ha.2 hn⟩, va_S.F hS1 ht⟩) hS1.2.2 (by omega) (by omega)


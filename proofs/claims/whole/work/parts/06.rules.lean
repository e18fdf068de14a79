def ldL : List (Nat × Value) → Nat → Option Value
  | [], _ => none
  | (j, v) :: L, i => cond (Nat.beq j i) (some v) (ldL L i)
def isL2 (v : Value) : Bool := match v with
  | .long _ => true
  | .double _ => true
  | _ => false
def rmL : List (Nat × Value) → Nat → List (Nat × Value)
  | [], _ => []
  | (j, v) :: L, i => cond (Nat.beq j i || (Nat.beq (j + 1) i && isL2 v)) (rmL L i) ((j, v) :: rmL L i)
def stL (L : List (Nat × Value)) (i : Nat) (v : Value) : List (Nat × Value) := (i, v) :: rmL L i
def stL2 (L : List (Nat × Value)) (i : Nat) (v : Value) : List (Nat × Value) := (i, v) :: rmL (rmL L (i + 1)) i
theorem ldL_mem : ∀ {L : List (Nat × Value)} {i : Nat} {v : Value}, ldL L i = some v → (i, v) ∈ L
  | [], _, _, h => by cases h
  | (j, w) :: L, i, v, h => by
    unfold ldL at h
    cases hb : Nat.beq j i with
    | true =>
      rw [hb] at h
      have := Nat.eq_of_beq_eq_true hb
      subst this
      cases h
      exact List.mem_cons_self
    | false => rw [hb] at h; exact List.mem_cons_of_mem _ (ldL_mem h)
theorem isL2_cat (v : Value) : isL2 v = (v.category == 2) := by cases v <;> rfl
theorem rmL_mem : ∀ {L : List (Nat × Value)} {i : Nat} {q : Nat × Value}, q ∈ rmL L i → q ∈ L ∧ q.1 ≠ i ∧ ¬ (q.1 + 1 = i ∧ q.2.category = 2)
  | [], _, _, h => by cases h
  | (j, v) :: L, i, q, h => by
    unfold rmL at h
    cases hb : (Nat.beq j i || (Nat.beq (j + 1) i && isL2 v)) with
    | true => rw [hb] at h; have := rmL_mem h; exact ⟨List.mem_cons_of_mem _ this.1, this.2⟩
    | false =>
      rw [hb] at h
      rcases List.mem_cons.mp h with rfl | h
      · rw [Bool.or_eq_false_iff, Bool.and_eq_false_iff] at hb
        refine ⟨List.mem_cons_self, fun e => ?_, fun e => ?_⟩
        · have e : j = i := e
          subst e; rw [Nat.beq_refl] at hb; cases hb.1
        · have e1 : j + 1 = i := e.1
          have e2 : v.category = 2 := e.2
          subst e1; rw [Nat.beq_refl, isL2_cat, e2] at hb; rcases hb.2 with h | h <;> cases h
      · have := rmL_mem h; exact ⟨List.mem_cons_of_mem _ this.1, this.2⟩
theorem lv_less {ls : Array Slot} {nL : Nat} {l l' : List (Nat × Value)} (h : lv_has ls nL l) (hs : ∀ q ∈ l', q ∈ l) : lv_has ls nL l' := ⟨h.1, h.2.1, fun q hq => h.2.2 q (hs q hq)⟩
theorem stL_in {L : List (Nat × Value)} {i : Nat} {v : Value} {ad : Nat → Nat} : ∀ q ∈ (stL L i v).map (fun q => (q.1, cv ad q.2)), q ∈ (i, cv ad v) :: (L.map (fun q => (q.1, cv ad q.2))).filter (fun q => !(q.1 == i) && !(q.1 + 1 == i && q.2.category == 2)) := by
  intro q hq
  simp only [stL, List.map_cons, List.mem_cons] at hq ⊢
  rcases hq with rfl | hq
  · exact Or.inl rfl
  · obtain ⟨q0, h0, rfl⟩ := List.mem_map.mp hq
    obtain ⟨h1, h2, h3⟩ := rmL_mem h0
    refine Or.inr (List.mem_filter.mpr ⟨List.mem_map.mpr ⟨q0, h1, rfl⟩, ?_⟩)
    simp only [cv_cat, Bool.and_eq_true, Bool.not_eq_true', beq_eq_false_iff_ne, Bool.and_eq_false_iff]
    refine ⟨h2, ?_⟩
    by_cases e : q0.1 + 1 = i
    · exact Or.inr (fun e2 => h3 ⟨e, e2⟩)
    · exact Or.inl e
theorem stL2_in {L : List (Nat × Value)} {i : Nat} {v : Value} {ad : Nat → Nat} : ∀ q ∈ (stL2 L i v).map (fun q => (q.1, cv ad q.2)), q ∈ (i, cv ad v) :: (L.map (fun q => (q.1, cv ad q.2))).filter (fun q => !(q.1 == i) && (!(q.1 == i + 1) && !(q.1 + 1 == i && q.2.category == 2))) := by
  intro q hq
  simp only [stL2, List.map_cons, List.mem_cons] at hq ⊢
  rcases hq with rfl | hq
  · exact Or.inl rfl
  · obtain ⟨q0, h0, rfl⟩ := List.mem_map.mp hq
    obtain ⟨h1, h2, h3⟩ := rmL_mem h0
    obtain ⟨h4, h5, h6⟩ := rmL_mem h1
    refine Or.inr (List.mem_filter.mpr ⟨List.mem_map.mpr ⟨q0, h4, rfl⟩, ?_⟩)
    simp only [cv_cat, Bool.and_eq_true, Bool.not_eq_true', beq_eq_false_iff_ne, Bool.and_eq_false_iff]
    refine ⟨h2, h5, ?_⟩
    by_cases e : q0.1 + 1 = i
    · exact Or.inr (fun e2 => h3 ⟨e, e2⟩)
    · exact Or.inl e
theorem okL_st {g : pGG} {L : List (Nat × Value)} {i : Nat} {v : Value} (h : okL g L) (hv : okv g v) : okL g (stL L i v) := by
  intro q hq
  rcases List.mem_cons.mp hq with rfl | hq
  · exact hv
  · exact h q (rmL_mem hq).1
theorem okL_st2 {g : pGG} {L : List (Nat × Value)} {i : Nat} {v : Value} (h : okL g L) (hv : okv g v) : okL g (stL2 L i v) := by
  intro q hq
  rcases List.mem_cons.mp hq with rfl | hq
  · exact hv
  · exact h q (rmL_mem (rmL_mem hq).1).1
theorem lv_ld {ls : Array Slot} {nL : Nat} {L : List (Nat × Value)} {ad : Nat → Nat} {i : Nat} {v : Value} (h : lv_has ls nL (L.map (fun q => (q.1, cv ad q.2)))) (hi : ldL L i = some v) : ls[i]? = some (.val (cv ad v)) := h.2.2 (i, cv ad v) (List.mem_map.mpr ⟨(i, v), ldL_mem hi, rfl⟩)
theorem ldL_pos : ∀ {L : List (Nat × Value)} {i : Nat} {v : Value}, ldL L i = some v → ∃ k : Nat, L[k]? = some (i, v) := fun h => List.getElem?_of_mem (ldL_mem h)
def agL : List (Nat × Value) → List (Nat × Value) → Prop
  | [], _ => True
  | (i, v) :: L', L => ldL L i = some v ∧ agL L' L
theorem agL_mem : ∀ {L' L : List (Nat × Value)}, agL L' L → ∀ q ∈ L', q ∈ L
  | [], _, _, q, hq => by cases hq
  | (i, v) :: L', L, h, q, hq => by
    rcases List.mem_cons.mp hq with rfl | hq
    · exact ldL_mem h.1
    · exact agL_mem h.2 q hq

theorem X_L {Γ : pTG} {d k n : Nat} {M : pMD} {pc : Nat} {L : List (Nat × Value)} {S : List Value} {g : pGG} {mi : pMI} {ml : pML} {Q : pQ} (L' : List (Nat × Value)) (hL : agL L' L) (h : XW Γ d k n M pc L' S g mi ml Q) : XW Γ d k n M pc L S g mi ml Q := by
  intro p e s m args below meth c H locs cells slots mc ms ls ad ad0 n0 R P
  obtain ⟨hc, hE, hS, hl, hRep, hoL, hoS, hr, ha⟩ := P
  exact h p e s m args below meth c H locs cells slots mc ms ls ad ad0 n0 R ⟨hc, hE, hS, lv_less hl (fun q hq => by obtain ⟨q0, h0, rfl⟩ := List.mem_map.mp hq; exact List.mem_map.mpr ⟨q0, agL_mem hL q0 h0, rfl⟩), hRep, fun q hq => hoL q (agL_mem hL q hq), hoS, hr, ha⟩
theorem X_post {Γ : pTG} {d k n : Nat} {M : pMD} {pc : Nat} {L : List (Nat × Value)} {S : List Value} {g : pGG} {mi : pMI} {ml : pML} {Q Q' : pQ} (hQ : ∀ r g mi ml, Q' r g mi ml → Q r g mi ml) (h : XW Γ d k n M pc L S g mi ml Q') : XW Γ d k n M pc L S g mi ml Q := by
  intro p e s m args below meth c H locs cells slots mc ms ls ad ad0 n0 R P T hT X
  obtain ⟨t, h1, o, h2, h3, h4⟩ := h p e s m args below meth c H locs cells slots mc ms ls ad ad0 n0 R P T hT X
  refine ⟨t, h1, o, h2, h3, ?_⟩
  rcases h4 with ⟨⟨⟨v, g', mi', ml', ad', a1, a2, a3⟩, a4⟩, a5⟩ | ⟨q, rfl, E, ce, Lc, ⟨⟨g', mi', ml', ad', b1, b2⟩, b3⟩, b4⟩
  · exact Or.inl ⟨⟨⟨v, g', mi', ml', ad', a1, hQ _ _ _ _ a2, a3⟩, a4⟩, a5⟩
  · exact Or.inr ⟨q, rfl, E, ce, Lc, ⟨⟨g', mi', ml', ad', hQ _ _ _ _ b1, b2⟩, b3⟩, b4⟩

theorem X_iconst {Γ : pTG} {d k n : Nat} {M : pMD} {pc : Nat} {L : List (Nat × Value)} {S : List Value} {g : pGG} {mi : pMI} {ml : pML} {Q : pQ} {z : Int} {v : Int32} (hd : decode M.2.1 pc = .ok (.iconst z, 1)) (hv : Int32.ofInt z = v) (h : XW Γ d k n M (pc + 1) L (.int v :: S) g mi ml Q) : XW Γ d k n M pc L S g mi ml Q := by
  intro p e s m args below meth c H locs cells slots mc ms ls ad ad0 n0 R P
  obtain ⟨hc, hE, hS, hl, hRep, hoL, hoS, hr, ha⟩ := P
  exact lv_iconst hc.1 hc.2.1 hd hv (h p e s m args below meth c H locs cells slots mc ms ls ad ad0 n0 R ⟨hc, hE, hS, hl, hRep, hoL, okS_c okv_i hoS, hr, ha⟩)
theorem X_bipush {Γ : pTG} {d k n : Nat} {M : pMD} {pc : Nat} {L : List (Nat × Value)} {S : List Value} {g : pGG} {mi : pMI} {ml : pML} {Q : pQ} {z : Int} {v : Int32} (hd : decode M.2.1 pc = .ok (.bipush z, 2)) (hv : (Int8.ofInt z).toInt32 = v) (h : XW Γ d k n M (pc + 2) L (.int v :: S) g mi ml Q) : XW Γ d k n M pc L S g mi ml Q := by
  intro p e s m args below meth c H locs cells slots mc ms ls ad ad0 n0 R P
  obtain ⟨hc, hE, hS, hl, hRep, hoL, hoS, hr, ha⟩ := P
  exact lv_bipush hc.1 hc.2.1 hd hv (h p e s m args below meth c H locs cells slots mc ms ls ad ad0 n0 R ⟨hc, hE, hS, hl, hRep, hoL, okS_c okv_i hoS, hr, ha⟩)
theorem X_sipush {Γ : pTG} {d k n : Nat} {M : pMD} {pc : Nat} {L : List (Nat × Value)} {S : List Value} {g : pGG} {mi : pMI} {ml : pML} {Q : pQ} {z : Int} {v : Int32} (hd : decode M.2.1 pc = .ok (.sipush z, 3)) (hv : (Int16.ofInt z).toInt32 = v) (h : XW Γ d k n M (pc + 3) L (.int v :: S) g mi ml Q) : XW Γ d k n M pc L S g mi ml Q := by
  intro p e s m args below meth c H locs cells slots mc ms ls ad ad0 n0 R P
  obtain ⟨hc, hE, hS, hl, hRep, hoL, hoS, hr, ha⟩ := P
  exact lv_sipush hc.1 hc.2.1 hd hv (h p e s m args below meth c H locs cells slots mc ms ls ad ad0 n0 R ⟨hc, hE, hS, hl, hRep, hoL, okS_c okv_i hoS, hr, ha⟩)
theorem X_lconst {Γ : pTG} {d k n : Nat} {M : pMD} {pc : Nat} {L : List (Nat × Value)} {S : List Value} {g : pGG} {mi : pMI} {ml : pML} {Q : pQ} {z : Fin 2} {v : Int64} (hd : decode M.2.1 pc = .ok (.lconst z, 1)) (hv : Int64.ofNat (z : Nat) = v) (h : XW Γ d k n M (pc + 1) L (.long v :: S) g mi ml Q) : XW Γ d k n M pc L S g mi ml Q := by
  intro p e s m args below meth c H locs cells slots mc ms ls ad ad0 n0 R P
  obtain ⟨hc, hE, hS, hl, hRep, hoL, hoS, hr, ha⟩ := P
  exact lv_lconst hc.1 hc.2.1 hd hv (h p e s m args below meth c H locs cells slots mc ms ls ad ad0 n0 R ⟨hc, hE, hS, hl, hRep, hoL, okS_c okv_l hoS, hr, ha⟩)
theorem X_aconst_null {Γ : pTG} {d k n : Nat} {M : pMD} {pc : Nat} {L : List (Nat × Value)} {S : List Value} {g : pGG} {mi : pMI} {ml : pML} {Q : pQ} (hd : decode M.2.1 pc = .ok (.aconst_null, 1)) (h : XW Γ d k n M (pc + 1) L (.null :: S) g mi ml Q) : XW Γ d k n M pc L S g mi ml Q := by
  intro p e s m args below meth c H locs cells slots mc ms ls ad ad0 n0 R P
  obtain ⟨hc, hE, hS, hl, hRep, hoL, hoS, hr, ha⟩ := P
  exact lv_null hc.1 hc.2.1 hd (h p e s m args below meth c H locs cells slots mc ms ls ad ad0 n0 R ⟨hc, hE, hS, hl, hRep, hoL, okS_c okv_n hoS, hr, ha⟩)
theorem X_iload_n {Γ : pTG} {d k n : Nat} {M : pMD} {pc : Nat} {L : List (Nat × Value)} {S : List Value} {g : pGG} {mi : pMI} {ml : pML} {Q : pQ} {j : Fin 4} {x : Int32} (hd : decode M.2.1 pc = .ok (.iload_n j, 1)) (hL : ldL L j.val = some (.int x)) (h : XW Γ d k n M (pc + 1) L (.int x :: S) g mi ml Q) : XW Γ d k n M pc L S g mi ml Q := by
  intro p e s m args below meth c H locs cells slots mc ms ls ad ad0 n0 R P
  obtain ⟨hc, hE, hS, hl, hRep, hoL, hoS, hr, ha⟩ := P
  exact lv_iload_n hc.1 hc.2.1 hd rfl (lv_ld hl hL) (h p e s m args below meth c H locs cells slots mc ms ls ad ad0 n0 R ⟨hc, hE, hS, hl, hRep, hoL, okS_c okv_i hoS, hr, ha⟩)
theorem X_iload {Γ : pTG} {d k n : Nat} {M : pMD} {pc : Nat} {L : List (Nat × Value)} {S : List Value} {g : pGG} {mi : pMI} {ml : pML} {Q : pQ} {j : Nat} {x : Int32} (hd : decode M.2.1 pc = .ok (.iload j, 2)) (hL : ldL L j = some (.int x)) (h : XW Γ d k n M (pc + 2) L (.int x :: S) g mi ml Q) : XW Γ d k n M pc L S g mi ml Q := by
  intro p e s m args below meth c H locs cells slots mc ms ls ad ad0 n0 R P
  obtain ⟨hc, hE, hS, hl, hRep, hoL, hoS, hr, ha⟩ := P
  exact lv_iload hc.1 hc.2.1 hd (lv_ld hl hL) (h p e s m args below meth c H locs cells slots mc ms ls ad ad0 n0 R ⟨hc, hE, hS, hl, hRep, hoL, okS_c okv_i hoS, hr, ha⟩)
theorem X_lload_n {Γ : pTG} {d k n : Nat} {M : pMD} {pc : Nat} {L : List (Nat × Value)} {S : List Value} {g : pGG} {mi : pMI} {ml : pML} {Q : pQ} {j : Fin 4} {x : Int64} (hd : decode M.2.1 pc = .ok (.lload_n j, 1)) (hL : ldL L j.val = some (.long x)) (h : XW Γ d k n M (pc + 1) L (.long x :: S) g mi ml Q) : XW Γ d k n M pc L S g mi ml Q := by
  intro p e s m args below meth c H locs cells slots mc ms ls ad ad0 n0 R P
  obtain ⟨hc, hE, hS, hl, hRep, hoL, hoS, hr, ha⟩ := P
  exact lv_lload_n hc.1 hc.2.1 hd rfl (lv_ld hl hL) (h p e s m args below meth c H locs cells slots mc ms ls ad ad0 n0 R ⟨hc, hE, hS, hl, hRep, hoL, okS_c okv_l hoS, hr, ha⟩)
theorem X_lload {Γ : pTG} {d k n : Nat} {M : pMD} {pc : Nat} {L : List (Nat × Value)} {S : List Value} {g : pGG} {mi : pMI} {ml : pML} {Q : pQ} {j : Nat} {x : Int64} (hd : decode M.2.1 pc = .ok (.lload j, 2)) (hL : ldL L j = some (.long x)) (h : XW Γ d k n M (pc + 2) L (.long x :: S) g mi ml Q) : XW Γ d k n M pc L S g mi ml Q := by
  intro p e s m args below meth c H locs cells slots mc ms ls ad ad0 n0 R P
  obtain ⟨hc, hE, hS, hl, hRep, hoL, hoS, hr, ha⟩ := P
  exact lv_lload hc.1 hc.2.1 hd (lv_ld hl hL) (h p e s m args below meth c H locs cells slots mc ms ls ad ad0 n0 R ⟨hc, hE, hS, hl, hRep, hoL, okS_c okv_l hoS, hr, ha⟩)
theorem X_aload_n {Γ : pTG} {d k n : Nat} {M : pMD} {pc : Nat} {L : List (Nat × Value)} {S : List Value} {g : pGG} {mi : pMI} {ml : pML} {Q : pQ} {j : Fin 4} {x : Nat} (hd : decode M.2.1 pc = .ok (.aload_n j, 1)) (hL : ldL L j.val = some (.ref x)) (h : XW Γ d k n M (pc + 1) L (.ref x :: S) g mi ml Q) : XW Γ d k n M pc L S g mi ml Q := by
  intro p e s m args below meth c H locs cells slots mc ms ls ad ad0 n0 R P
  obtain ⟨hc, hE, hS, hl, hRep, hoL, hoS, hr, ha⟩ := P
  exact lv_aload_n hc.1 hc.2.1 hd rfl (lv_ld hl hL) (h p e s m args below meth c H locs cells slots mc ms ls ad ad0 n0 R ⟨hc, hE, hS, hl, hRep, hoL, okS_c (hoL _ (ldL_mem hL)) hoS, hr, ha⟩)
theorem X_aload {Γ : pTG} {d k n : Nat} {M : pMD} {pc : Nat} {L : List (Nat × Value)} {S : List Value} {g : pGG} {mi : pMI} {ml : pML} {Q : pQ} {j : Nat} {x : Nat} (hd : decode M.2.1 pc = .ok (.aload j, 2)) (hL : ldL L j = some (.ref x)) (h : XW Γ d k n M (pc + 2) L (.ref x :: S) g mi ml Q) : XW Γ d k n M pc L S g mi ml Q := by
  intro p e s m args below meth c H locs cells slots mc ms ls ad ad0 n0 R P
  obtain ⟨hc, hE, hS, hl, hRep, hoL, hoS, hr, ha⟩ := P
  exact lv_aload hc.1 hc.2.1 hd (lv_ld hl hL) (h p e s m args below meth c H locs cells slots mc ms ls ad ad0 n0 R ⟨hc, hE, hS, hl, hRep, hoL, okS_c (hoL _ (ldL_mem hL)) hoS, hr, ha⟩)
theorem X_istore_n {Γ : pTG} {d k n : Nat} {M : pMD} {pc : Nat} {L : List (Nat × Value)} {S : List Value} {g : pGG} {mi : pMI} {ml : pML} {Q : pQ} {j : Fin 4} {x : Int32} (hd : decode M.2.1 pc = .ok (.istore_n j, 1)) (hn : j.val < M.2.2.1) (h : XW Γ d k n M (pc + 1) (stL L j.val (.int x)) S g mi ml Q) : XW Γ d k n M pc L (.int x :: S) g mi ml Q := by
  intro p e s m args below meth c H locs cells slots mc ms ls ad ad0 n0 R P
  obtain ⟨hc, hE, hS, hl, hRep, hoL, hoS, hr, ha⟩ := P
  exact lv_istore_n hc.1 hc.2.1 hd rfl hl hn rfl (fun ls' hl' => (h p e s m args below meth c H locs cells slots mc ms ls' ad ad0 n0 R ⟨hc, hE, hS, lv_less hl' stL_in, hRep, okL_st hoL (okS_h hoS), okS_t hoS, hr, ha⟩))
theorem X_istore {Γ : pTG} {d k n : Nat} {M : pMD} {pc : Nat} {L : List (Nat × Value)} {S : List Value} {g : pGG} {mi : pMI} {ml : pML} {Q : pQ} {j : Nat} {x : Int32} (hd : decode M.2.1 pc = .ok (.istore j, 2)) (hn : j < M.2.2.1) (h : XW Γ d k n M (pc + 2) (stL L j (.int x)) S g mi ml Q) : XW Γ d k n M pc L (.int x :: S) g mi ml Q := by
  intro p e s m args below meth c H locs cells slots mc ms ls ad ad0 n0 R P
  obtain ⟨hc, hE, hS, hl, hRep, hoL, hoS, hr, ha⟩ := P
  exact lv_istore hc.1 hc.2.1 hd hl hn rfl (fun ls' hl' => (h p e s m args below meth c H locs cells slots mc ms ls' ad ad0 n0 R ⟨hc, hE, hS, lv_less hl' stL_in, hRep, okL_st hoL (okS_h hoS), okS_t hoS, hr, ha⟩))
theorem X_astore_n {Γ : pTG} {d k n : Nat} {M : pMD} {pc : Nat} {L : List (Nat × Value)} {S : List Value} {g : pGG} {mi : pMI} {ml : pML} {Q : pQ} {j : Fin 4} {x : Nat} (hd : decode M.2.1 pc = .ok (.astore_n j, 1)) (hn : j.val < M.2.2.1) (h : XW Γ d k n M (pc + 1) (stL L j.val (.ref x)) S g mi ml Q) : XW Γ d k n M pc L (.ref x :: S) g mi ml Q := by
  intro p e s m args below meth c H locs cells slots mc ms ls ad ad0 n0 R P
  obtain ⟨hc, hE, hS, hl, hRep, hoL, hoS, hr, ha⟩ := P
  exact lv_astore_n hc.1 hc.2.1 hd rfl hl hn rfl (fun ls' hl' => (h p e s m args below meth c H locs cells slots mc ms ls' ad ad0 n0 R ⟨hc, hE, hS, lv_less hl' stL_in, hRep, okL_st hoL (okS_h hoS), okS_t hoS, hr, ha⟩))
theorem X_astore {Γ : pTG} {d k n : Nat} {M : pMD} {pc : Nat} {L : List (Nat × Value)} {S : List Value} {g : pGG} {mi : pMI} {ml : pML} {Q : pQ} {j : Nat} {x : Nat} (hd : decode M.2.1 pc = .ok (.astore j, 2)) (hn : j < M.2.2.1) (h : XW Γ d k n M (pc + 2) (stL L j (.ref x)) S g mi ml Q) : XW Γ d k n M pc L (.ref x :: S) g mi ml Q := by
  intro p e s m args below meth c H locs cells slots mc ms ls ad ad0 n0 R P
  obtain ⟨hc, hE, hS, hl, hRep, hoL, hoS, hr, ha⟩ := P
  exact lv_astore hc.1 hc.2.1 hd hl hn rfl (fun ls' hl' => (h p e s m args below meth c H locs cells slots mc ms ls' ad ad0 n0 R ⟨hc, hE, hS, lv_less hl' stL_in, hRep, okL_st hoL (okS_h hoS), okS_t hoS, hr, ha⟩))
theorem X_lstore_n {Γ : pTG} {d k n : Nat} {M : pMD} {pc : Nat} {L : List (Nat × Value)} {S : List Value} {g : pGG} {mi : pMI} {ml : pML} {Q : pQ} {j : Fin 4} {x : Int64} (hd : decode M.2.1 pc = .ok (.lstore_n j, 1)) (hn : j.val + 1 < M.2.2.1) (h : XW Γ d k n M (pc + 1) (stL2 L j.val (.long x)) S g mi ml Q) : XW Γ d k n M pc L (.long x :: S) g mi ml Q := by
  intro p e s m args below meth c H locs cells slots mc ms ls ad ad0 n0 R P
  obtain ⟨hc, hE, hS, hl, hRep, hoL, hoS, hr, ha⟩ := P
  exact lv_lstore_n hc.1 hc.2.1 hd rfl hl hn rfl (fun ls' hl' => (h p e s m args below meth c H locs cells slots mc ms ls' ad ad0 n0 R ⟨hc, hE, hS, lv_less hl' stL2_in, hRep, okL_st2 hoL (okS_h hoS), okS_t hoS, hr, ha⟩))
theorem X_iinc {Γ : pTG} {d k n : Nat} {M : pMD} {pc : Nat} {L : List (Nat × Value)} {S : List Value} {g : pGG} {mi : pMI} {ml : pML} {Q : pQ} {j : Nat} {z : Int} {x v : Int32} (hd : decode M.2.1 pc = .ok (.iinc j z, 3)) (hL : ldL L j = some (.int x)) (hv : x + Int32.ofInt z = v) (hn : j < M.2.2.1) (h : XW Γ d k n M (pc + 3) (stL L j (.int v)) S g mi ml Q) : XW Γ d k n M pc L S g mi ml Q := by
  intro p e s m args below meth c H locs cells slots mc ms ls ad ad0 n0 R P
  obtain ⟨hc, hE, hS, hl, hRep, hoL, hoS, hr, ha⟩ := P
  obtain ⟨kk, hk⟩ := ldL_pos hL
  exact lv_iinc (k := kk) hc.1 hc.2.1 hd hl (by rw [List.getElem?_map, hk]; rfl) hv hn rfl (fun ls' hl' => (h p e s m args below meth c H locs cells slots mc ms ls' ad ad0 n0 R ⟨hc, hE, hS, lv_less hl' stL_in, hRep, okL_st hoL okv_i, hoS, hr, ha⟩))
theorem X_iadd {Γ : pTG} {d k n : Nat} {M : pMD} {pc : Nat} {L : List (Nat × Value)} {S : List Value} {g : pGG} {mi : pMI} {ml : pML} {Q : pQ} {x y : Int32} (hd : decode M.2.1 pc = .ok (.iadd, 1))  (h : XW Γ d k n M (pc + 1) L (.int (x + y) :: S) g mi ml Q) : XW Γ d k n M pc L (.int y :: .int x :: S) g mi ml Q := by
  intro p e s m args below meth c H locs cells slots mc ms ls ad ad0 n0 R P
  obtain ⟨hc, hE, hS, hl, hRep, hoL, hoS, hr, ha⟩ := P
  exact lv_iadd hc.1 hc.2.1 hd  (h p e s m args below meth c H locs cells slots mc ms ls ad ad0 n0 R ⟨hc, hE, hS, hl, hRep, hoL, okS_c okv_i (okS_t (okS_t hoS)), hr, ha⟩)
theorem X_isub {Γ : pTG} {d k n : Nat} {M : pMD} {pc : Nat} {L : List (Nat × Value)} {S : List Value} {g : pGG} {mi : pMI} {ml : pML} {Q : pQ} {x y : Int32} (hd : decode M.2.1 pc = .ok (.isub, 1))  (h : XW Γ d k n M (pc + 1) L (.int (x - y) :: S) g mi ml Q) : XW Γ d k n M pc L (.int y :: .int x :: S) g mi ml Q := by
  intro p e s m args below meth c H locs cells slots mc ms ls ad ad0 n0 R P
  obtain ⟨hc, hE, hS, hl, hRep, hoL, hoS, hr, ha⟩ := P
  exact lv_isub hc.1 hc.2.1 hd  (h p e s m args below meth c H locs cells slots mc ms ls ad ad0 n0 R ⟨hc, hE, hS, hl, hRep, hoL, okS_c okv_i (okS_t (okS_t hoS)), hr, ha⟩)
theorem X_imul {Γ : pTG} {d k n : Nat} {M : pMD} {pc : Nat} {L : List (Nat × Value)} {S : List Value} {g : pGG} {mi : pMI} {ml : pML} {Q : pQ} {x y : Int32} (hd : decode M.2.1 pc = .ok (.imul, 1))  (h : XW Γ d k n M (pc + 1) L (.int (x * y) :: S) g mi ml Q) : XW Γ d k n M pc L (.int y :: .int x :: S) g mi ml Q := by
  intro p e s m args below meth c H locs cells slots mc ms ls ad ad0 n0 R P
  obtain ⟨hc, hE, hS, hl, hRep, hoL, hoS, hr, ha⟩ := P
  exact lv_imul hc.1 hc.2.1 hd  (h p e s m args below meth c H locs cells slots mc ms ls ad ad0 n0 R ⟨hc, hE, hS, hl, hRep, hoL, okS_c okv_i (okS_t (okS_t hoS)), hr, ha⟩)
theorem X_iand {Γ : pTG} {d k n : Nat} {M : pMD} {pc : Nat} {L : List (Nat × Value)} {S : List Value} {g : pGG} {mi : pMI} {ml : pML} {Q : pQ} {x y : Int32} (hd : decode M.2.1 pc = .ok (.iand, 1))  (h : XW Γ d k n M (pc + 1) L (.int (x &&& y) :: S) g mi ml Q) : XW Γ d k n M pc L (.int y :: .int x :: S) g mi ml Q := by
  intro p e s m args below meth c H locs cells slots mc ms ls ad ad0 n0 R P
  obtain ⟨hc, hE, hS, hl, hRep, hoL, hoS, hr, ha⟩ := P
  exact lv_iand hc.1 hc.2.1 hd  (h p e s m args below meth c H locs cells slots mc ms ls ad ad0 n0 R ⟨hc, hE, hS, hl, hRep, hoL, okS_c okv_i (okS_t (okS_t hoS)), hr, ha⟩)
theorem X_ior {Γ : pTG} {d k n : Nat} {M : pMD} {pc : Nat} {L : List (Nat × Value)} {S : List Value} {g : pGG} {mi : pMI} {ml : pML} {Q : pQ} {x y : Int32} (hd : decode M.2.1 pc = .ok (.ior, 1))  (h : XW Γ d k n M (pc + 1) L (.int (x ||| y) :: S) g mi ml Q) : XW Γ d k n M pc L (.int y :: .int x :: S) g mi ml Q := by
  intro p e s m args below meth c H locs cells slots mc ms ls ad ad0 n0 R P
  obtain ⟨hc, hE, hS, hl, hRep, hoL, hoS, hr, ha⟩ := P
  exact lv_ior hc.1 hc.2.1 hd  (h p e s m args below meth c H locs cells slots mc ms ls ad ad0 n0 R ⟨hc, hE, hS, hl, hRep, hoL, okS_c okv_i (okS_t (okS_t hoS)), hr, ha⟩)
theorem X_ixor {Γ : pTG} {d k n : Nat} {M : pMD} {pc : Nat} {L : List (Nat × Value)} {S : List Value} {g : pGG} {mi : pMI} {ml : pML} {Q : pQ} {x y : Int32} (hd : decode M.2.1 pc = .ok (.ixor, 1))  (h : XW Γ d k n M (pc + 1) L (.int (x ^^^ y) :: S) g mi ml Q) : XW Γ d k n M pc L (.int y :: .int x :: S) g mi ml Q := by
  intro p e s m args below meth c H locs cells slots mc ms ls ad ad0 n0 R P
  obtain ⟨hc, hE, hS, hl, hRep, hoL, hoS, hr, ha⟩ := P
  exact lv_ixor hc.1 hc.2.1 hd  (h p e s m args below meth c H locs cells slots mc ms ls ad ad0 n0 R ⟨hc, hE, hS, hl, hRep, hoL, okS_c okv_i (okS_t (okS_t hoS)), hr, ha⟩)
theorem X_idiv {Γ : pTG} {d k n : Nat} {M : pMD} {pc : Nat} {L : List (Nat × Value)} {S : List Value} {g : pGG} {mi : pMI} {ml : pML} {Q : pQ} {x y : Int32} (hd : decode M.2.1 pc = .ok (.idiv, 1)) (hne : ¬ y = 0) (h : XW Γ d k n M (pc + 1) L (.int (x / y) :: S) g mi ml Q) : XW Γ d k n M pc L (.int y :: .int x :: S) g mi ml Q := by
  intro p e s m args below meth c H locs cells slots mc ms ls ad ad0 n0 R P
  obtain ⟨hc, hE, hS, hl, hRep, hoL, hoS, hr, ha⟩ := P
  exact lv_idiv hc.1 hc.2.1 hd hne (h p e s m args below meth c H locs cells slots mc ms ls ad ad0 n0 R ⟨hc, hE, hS, hl, hRep, hoL, okS_c okv_i (okS_t (okS_t hoS)), hr, ha⟩)
theorem X_irem {Γ : pTG} {d k n : Nat} {M : pMD} {pc : Nat} {L : List (Nat × Value)} {S : List Value} {g : pGG} {mi : pMI} {ml : pML} {Q : pQ} {x y : Int32} (hd : decode M.2.1 pc = .ok (.irem, 1)) (hne : ¬ y = 0) (h : XW Γ d k n M (pc + 1) L (.int (x - x / y * y) :: S) g mi ml Q) : XW Γ d k n M pc L (.int y :: .int x :: S) g mi ml Q := by
  intro p e s m args below meth c H locs cells slots mc ms ls ad ad0 n0 R P
  obtain ⟨hc, hE, hS, hl, hRep, hoL, hoS, hr, ha⟩ := P
  exact lv_irem hc.1 hc.2.1 hd hne (h p e s m args below meth c H locs cells slots mc ms ls ad ad0 n0 R ⟨hc, hE, hS, hl, hRep, hoL, okS_c okv_i (okS_t (okS_t hoS)), hr, ha⟩)
theorem X_ishl {Γ : pTG} {d k n : Nat} {M : pMD} {pc : Nat} {L : List (Nat × Value)} {S : List Value} {g : pGG} {mi : pMI} {ml : pML} {Q : pQ} {x y : Int32} (hd : decode M.2.1 pc = .ok (.ishl, 1))  (h : XW Γ d k n M (pc + 1) L (.int (x <<< (y &&& 31)) :: S) g mi ml Q) : XW Γ d k n M pc L (.int y :: .int x :: S) g mi ml Q := by
  intro p e s m args below meth c H locs cells slots mc ms ls ad ad0 n0 R P
  obtain ⟨hc, hE, hS, hl, hRep, hoL, hoS, hr, ha⟩ := P
  exact lv_ishl hc.1 hc.2.1 hd  (h p e s m args below meth c H locs cells slots mc ms ls ad ad0 n0 R ⟨hc, hE, hS, hl, hRep, hoL, okS_c okv_i (okS_t (okS_t hoS)), hr, ha⟩)
theorem X_ishr {Γ : pTG} {d k n : Nat} {M : pMD} {pc : Nat} {L : List (Nat × Value)} {S : List Value} {g : pGG} {mi : pMI} {ml : pML} {Q : pQ} {x y : Int32} (hd : decode M.2.1 pc = .ok (.ishr, 1))  (h : XW Γ d k n M (pc + 1) L (.int (x >>> (y &&& 31)) :: S) g mi ml Q) : XW Γ d k n M pc L (.int y :: .int x :: S) g mi ml Q := by
  intro p e s m args below meth c H locs cells slots mc ms ls ad ad0 n0 R P
  obtain ⟨hc, hE, hS, hl, hRep, hoL, hoS, hr, ha⟩ := P
  exact lv_ishr hc.1 hc.2.1 hd  (h p e s m args below meth c H locs cells slots mc ms ls ad ad0 n0 R ⟨hc, hE, hS, hl, hRep, hoL, okS_c okv_i (okS_t (okS_t hoS)), hr, ha⟩)
theorem X_ineg {Γ : pTG} {d k n : Nat} {M : pMD} {pc : Nat} {L : List (Nat × Value)} {S : List Value} {g : pGG} {mi : pMI} {ml : pML} {Q : pQ} {x : Int32} (hd : decode M.2.1 pc = .ok (.ineg, 1)) (h : XW Γ d k n M (pc + 1) L (.int (-x) :: S) g mi ml Q) : XW Γ d k n M pc L (.int x :: S) g mi ml Q := by
  intro p e s m args below meth c H locs cells slots mc ms ls ad ad0 n0 R P
  obtain ⟨hc, hE, hS, hl, hRep, hoL, hoS, hr, ha⟩ := P
  exact lv_ineg hc.1 hc.2.1 hd (h p e s m args below meth c H locs cells slots mc ms ls ad ad0 n0 R ⟨hc, hE, hS, hl, hRep, hoL, okS_c okv_i (okS_t hoS), hr, ha⟩)
theorem X_iushr {Γ : pTG} {d k n : Nat} {M : pMD} {pc : Nat} {L : List (Nat × Value)} {S : List Value} {g : pGG} {mi : pMI} {ml : pML} {Q : pQ} {x y : Int32} (hd : decode M.2.1 pc = .ok (.iushr, 1)) (h : XW Γ d k n M (pc + 1) L (.int (x.toUInt32 >>> (y.toUInt32 &&& Int32.toUInt32 31)).toInt32 :: S) g mi ml Q) : XW Γ d k n M pc L (.int y :: .int x :: S) g mi ml Q := by
  intro p e s m args below meth c H locs cells slots mc ms ls ad ad0 n0 R P
  obtain ⟨hc, hE, hS, hl, hRep, hoL, hoS, hr, ha⟩ := P
  exact lv_iushr hc.1 hc.2.1 hd rfl (h p e s m args below meth c H locs cells slots mc ms ls ad ad0 n0 R ⟨hc, hE, hS, hl, hRep, hoL, okS_c okv_i (okS_t (okS_t hoS)), hr, ha⟩)
theorem X_lushr {Γ : pTG} {d k n : Nat} {M : pMD} {pc : Nat} {L : List (Nat × Value)} {S : List Value} {g : pGG} {mi : pMI} {ml : pML} {Q : pQ} {x : Int64} {y : Int32} (hd : decode M.2.1 pc = .ok (.lushr, 1)) (h : XW Γ d k n M (pc + 1) L (.long (x.toUInt64 >>> (y.toInt64.toUInt64 &&& Int64.toUInt64 63)).toInt64 :: S) g mi ml Q) : XW Γ d k n M pc L (.int y :: .long x :: S) g mi ml Q := by
  intro p e s m args below meth c H locs cells slots mc ms ls ad ad0 n0 R P
  obtain ⟨hc, hE, hS, hl, hRep, hoL, hoS, hr, ha⟩ := P
  exact lv_lushr hc.1 hc.2.1 hd rfl (h p e s m args below meth c H locs cells slots mc ms ls ad ad0 n0 R ⟨hc, hE, hS, hl, hRep, hoL, okS_c okv_l (okS_t (okS_t hoS)), hr, ha⟩)
theorem X_lshl {Γ : pTG} {d k n : Nat} {M : pMD} {pc : Nat} {L : List (Nat × Value)} {S : List Value} {g : pGG} {mi : pMI} {ml : pML} {Q : pQ} {x : Int64} {y : Int32} (hd : decode M.2.1 pc = .ok (.lshl, 1)) (h : XW Γ d k n M (pc + 1) L (.long (x <<< (y.toInt64 &&& 63)) :: S) g mi ml Q) : XW Γ d k n M pc L (.int y :: .long x :: S) g mi ml Q := by
  intro p e s m args below meth c H locs cells slots mc ms ls ad ad0 n0 R P
  obtain ⟨hc, hE, hS, hl, hRep, hoL, hoS, hr, ha⟩ := P
  exact lv_lshl hc.1 hc.2.1 hd rfl (h p e s m args below meth c H locs cells slots mc ms ls ad ad0 n0 R ⟨hc, hE, hS, hl, hRep, hoL, okS_c okv_l (okS_t (okS_t hoS)), hr, ha⟩)
theorem X_lor {Γ : pTG} {d k n : Nat} {M : pMD} {pc : Nat} {L : List (Nat × Value)} {S : List Value} {g : pGG} {mi : pMI} {ml : pML} {Q : pQ} {x y : Int64} (hd : decode M.2.1 pc = .ok (.lor, 1)) (h : XW Γ d k n M (pc + 1) L (.long (x ||| y) :: S) g mi ml Q) : XW Γ d k n M pc L (.long y :: .long x :: S) g mi ml Q := by
  intro p e s m args below meth c H locs cells slots mc ms ls ad ad0 n0 R P
  obtain ⟨hc, hE, hS, hl, hRep, hoL, hoS, hr, ha⟩ := P
  exact lv_lor hc.1 hc.2.1 hd (h p e s m args below meth c H locs cells slots mc ms ls ad ad0 n0 R ⟨hc, hE, hS, hl, hRep, hoL, okS_c okv_l (okS_t (okS_t hoS)), hr, ha⟩)
theorem X_lcmp {Γ : pTG} {d k n : Nat} {M : pMD} {pc : Nat} {L : List (Nat × Value)} {S : List Value} {g : pGG} {mi : pMI} {ml : pML} {Q : pQ} {x y : Int64} (hd : decode M.2.1 pc = .ok (.lcmp, 1)) (h : XW Γ d k n M (pc + 1) L (.int (lg_cmp x y) :: S) g mi ml Q) : XW Γ d k n M pc L (.long y :: .long x :: S) g mi ml Q := by
  intro p e s m args below meth c H locs cells slots mc ms ls ad ad0 n0 R P
  obtain ⟨hc, hE, hS, hl, hRep, hoL, hoS, hr, ha⟩ := P
  exact W.lcmp hc.1 hc.2.1 hd (h p e s m args below meth c H locs cells slots mc ms ls ad ad0 n0 R ⟨hc, hE, hS, hl, hRep, hoL, okS_c okv_i (okS_t (okS_t hoS)), hr, ha⟩)
theorem X_i2l {Γ : pTG} {d k n : Nat} {M : pMD} {pc : Nat} {L : List (Nat × Value)} {S : List Value} {g : pGG} {mi : pMI} {ml : pML} {Q : pQ} {x : Int32} (hd : decode M.2.1 pc = .ok (.i2l, 1)) (h : XW Γ d k n M (pc + 1) L (.long x.toInt64 :: S) g mi ml Q) : XW Γ d k n M pc L (.int x :: S) g mi ml Q := by
  intro p e s m args below meth c H locs cells slots mc ms ls ad ad0 n0 R P
  obtain ⟨hc, hE, hS, hl, hRep, hoL, hoS, hr, ha⟩ := P
  exact lv_i2l hc.1 hc.2.1 hd rfl (h p e s m args below meth c H locs cells slots mc ms ls ad ad0 n0 R ⟨hc, hE, hS, hl, hRep, hoL, okS_c okv_l (okS_t hoS), hr, ha⟩)
theorem X_l2i {Γ : pTG} {d k n : Nat} {M : pMD} {pc : Nat} {L : List (Nat × Value)} {S : List Value} {g : pGG} {mi : pMI} {ml : pML} {Q : pQ} {x : Int64} (hd : decode M.2.1 pc = .ok (.l2i, 1)) (h : XW Γ d k n M (pc + 1) L (.int x.toInt32 :: S) g mi ml Q) : XW Γ d k n M pc L (.long x :: S) g mi ml Q := by
  intro p e s m args below meth c H locs cells slots mc ms ls ad ad0 n0 R P
  obtain ⟨hc, hE, hS, hl, hRep, hoL, hoS, hr, ha⟩ := P
  exact lv_l2i hc.1 hc.2.1 hd rfl (h p e s m args below meth c H locs cells slots mc ms ls ad ad0 n0 R ⟨hc, hE, hS, hl, hRep, hoL, okS_c okv_i (okS_t hoS), hr, ha⟩)
theorem X_dup {Γ : pTG} {d k n : Nat} {M : pMD} {pc : Nat} {L : List (Nat × Value)} {S : List Value} {g : pGG} {mi : pMI} {ml : pML} {Q : pQ} {v : Value} (hd : decode M.2.1 pc = .ok (.dup, 1)) (hv : v.category = 1) (h : XW Γ d k n M (pc + 1) L (v :: v :: S) g mi ml Q) : XW Γ d k n M pc L (v :: S) g mi ml Q := by
  intro p e s m args below meth c H locs cells slots mc ms ls ad ad0 n0 R P
  obtain ⟨hc, hE, hS, hl, hRep, hoL, hoS, hr, ha⟩ := P
  exact lv_dup hc.1 hc.2.1 hd (by rw [cv_cat]; exact hv) (h p e s m args below meth c H locs cells slots mc ms ls ad ad0 n0 R ⟨hc, hE, hS, hl, hRep, hoL, okS_c (okS_h hoS) hoS, hr, ha⟩)
theorem X_dup2 {Γ : pTG} {d k n : Nat} {M : pMD} {pc : Nat} {L : List (Nat × Value)} {S : List Value} {g : pGG} {mi : pMI} {ml : pML} {Q : pQ} {v u : Value} (hd : decode M.2.1 pc = .ok (.dup2, 1)) (hv : v.category = 1) (hu : u.category = 1) (h : XW Γ d k n M (pc + 1) L (v :: u :: v :: u :: S) g mi ml Q) : XW Γ d k n M pc L (v :: u :: S) g mi ml Q := by
  intro p e s m args below meth c H locs cells slots mc ms ls ad ad0 n0 R P
  obtain ⟨hc, hE, hS, hl, hRep, hoL, hoS, hr, ha⟩ := P
  exact lv_dup2_11 hc.1 hc.2.1 hd (by rw [cv_cat]; exact hv) (by rw [cv_cat]; exact hu) (h p e s m args below meth c H locs cells slots mc ms ls ad ad0 n0 R ⟨hc, hE, hS, hl, hRep, hoL, okS_c (okS_h hoS) (okS_c (okS_h (okS_t hoS)) hoS), hr, ha⟩)
theorem X_dup_x1 {Γ : pTG} {d k n : Nat} {M : pMD} {pc : Nat} {L : List (Nat × Value)} {S : List Value} {g : pGG} {mi : pMI} {ml : pML} {Q : pQ} {v u : Value} (hd : decode M.2.1 pc = .ok (.dup_x1, 1)) (hv : v.category = 1) (hu : u.category = 1) (h : XW Γ d k n M (pc + 1) L (v :: u :: v :: S) g mi ml Q) : XW Γ d k n M pc L (v :: u :: S) g mi ml Q := by
  intro p e s m args below meth c H locs cells slots mc ms ls ad ad0 n0 R P
  obtain ⟨hc, hE, hS, hl, hRep, hoL, hoS, hr, ha⟩ := P
  exact lv_dup_x1 hc.1 hc.2.1 hd (by rw [cv_cat]; exact hv) (by rw [cv_cat]; exact hu) (h p e s m args below meth c H locs cells slots mc ms ls ad ad0 n0 R ⟨hc, hE, hS, hl, hRep, hoL, okS_c (okS_h hoS) (okS_c (okS_h (okS_t hoS)) (okS_c (okS_h hoS) (okS_t (okS_t hoS)))), hr, ha⟩)
theorem X_pop {Γ : pTG} {d k n : Nat} {M : pMD} {pc : Nat} {L : List (Nat × Value)} {S : List Value} {g : pGG} {mi : pMI} {ml : pML} {Q : pQ} {v : Value} (hd : decode M.2.1 pc = .ok (.pop, 1)) (hv : v.category = 1) (h : XW Γ d k n M (pc + 1) L S g mi ml Q) : XW Γ d k n M pc L (v :: S) g mi ml Q := by
  intro p e s m args below meth c H locs cells slots mc ms ls ad ad0 n0 R P
  obtain ⟨hc, hE, hS, hl, hRep, hoL, hoS, hr, ha⟩ := P
  exact lv_pop hc.1 hc.2.1 hd (by rw [cv_cat]; exact hv) (h p e s m args below meth c H locs cells slots mc ms ls ad ad0 n0 R ⟨hc, hE, hS, hl, hRep, hoL, okS_t hoS, hr, ha⟩)
theorem X_icmp_eq {Γ : pTG} {d k n : Nat} {M : pMD} {pc : Nat} {L : List (Nat × Value)} {S : List Value} {g : pGG} {mi : pMI} {ml : pML} {Q : pQ} {x y : Int32} {off : Int} (tgt : Nat) (hd : decode M.2.1 pc = .ok (.if_icmp .eq off, 3)) (ht : (pc : Int) + off = (tgt : Int)) (kt : x = y → XW Γ d k n M tgt L S g mi ml Q) (kf : ¬ x = y → XW Γ d k n M (pc + 3) L S g mi ml Q) : XW Γ d k n M pc L (.int y :: .int x :: S) g mi ml Q := by
  intro p e s m args below meth c H locs cells slots mc ms ls ad ad0 n0 R P
  obtain ⟨hc, hE, hS, hl, hRep, hoL, hoS, hr, ha⟩ := P
  exact lv_icmp_eq hc.1 hc.2.1 hd ht (fun z => (kt z p e s m args below meth c H locs cells slots mc ms ls ad ad0 n0 R ⟨hc, hE, hS, hl, hRep, hoL, okS_t (okS_t hoS), hr, ha⟩)) (fun z => (kf z p e s m args below meth c H locs cells slots mc ms ls ad ad0 n0 R ⟨hc, hE, hS, hl, hRep, hoL, okS_t (okS_t hoS), hr, ha⟩))
theorem X_icmp_ne {Γ : pTG} {d k n : Nat} {M : pMD} {pc : Nat} {L : List (Nat × Value)} {S : List Value} {g : pGG} {mi : pMI} {ml : pML} {Q : pQ} {x y : Int32} {off : Int} (tgt : Nat) (hd : decode M.2.1 pc = .ok (.if_icmp .ne off, 3)) (ht : (pc : Int) + off = (tgt : Int)) (kt : ¬ x = y → XW Γ d k n M tgt L S g mi ml Q) (kf : x = y → XW Γ d k n M (pc + 3) L S g mi ml Q) : XW Γ d k n M pc L (.int y :: .int x :: S) g mi ml Q := by
  intro p e s m args below meth c H locs cells slots mc ms ls ad ad0 n0 R P
  obtain ⟨hc, hE, hS, hl, hRep, hoL, hoS, hr, ha⟩ := P
  exact lv_icmp_ne hc.1 hc.2.1 hd ht (fun z => (kt z p e s m args below meth c H locs cells slots mc ms ls ad ad0 n0 R ⟨hc, hE, hS, hl, hRep, hoL, okS_t (okS_t hoS), hr, ha⟩)) (fun z => (kf z p e s m args below meth c H locs cells slots mc ms ls ad ad0 n0 R ⟨hc, hE, hS, hl, hRep, hoL, okS_t (okS_t hoS), hr, ha⟩))
theorem X_icmp_lt {Γ : pTG} {d k n : Nat} {M : pMD} {pc : Nat} {L : List (Nat × Value)} {S : List Value} {g : pGG} {mi : pMI} {ml : pML} {Q : pQ} {x y : Int32} {off : Int} (tgt : Nat) (hd : decode M.2.1 pc = .ok (.if_icmp .lt off, 3)) (ht : (pc : Int) + off = (tgt : Int)) (kt : x < y → XW Γ d k n M tgt L S g mi ml Q) (kf : ¬ x < y → XW Γ d k n M (pc + 3) L S g mi ml Q) : XW Γ d k n M pc L (.int y :: .int x :: S) g mi ml Q := by
  intro p e s m args below meth c H locs cells slots mc ms ls ad ad0 n0 R P
  obtain ⟨hc, hE, hS, hl, hRep, hoL, hoS, hr, ha⟩ := P
  exact lv_icmp_lt hc.1 hc.2.1 hd ht (fun z => (kt z p e s m args below meth c H locs cells slots mc ms ls ad ad0 n0 R ⟨hc, hE, hS, hl, hRep, hoL, okS_t (okS_t hoS), hr, ha⟩)) (fun z => (kf z p e s m args below meth c H locs cells slots mc ms ls ad ad0 n0 R ⟨hc, hE, hS, hl, hRep, hoL, okS_t (okS_t hoS), hr, ha⟩))
theorem X_icmp_ge {Γ : pTG} {d k n : Nat} {M : pMD} {pc : Nat} {L : List (Nat × Value)} {S : List Value} {g : pGG} {mi : pMI} {ml : pML} {Q : pQ} {x y : Int32} {off : Int} (tgt : Nat) (hd : decode M.2.1 pc = .ok (.if_icmp .ge off, 3)) (ht : (pc : Int) + off = (tgt : Int)) (kt : y ≤ x → XW Γ d k n M tgt L S g mi ml Q) (kf : ¬ y ≤ x → XW Γ d k n M (pc + 3) L S g mi ml Q) : XW Γ d k n M pc L (.int y :: .int x :: S) g mi ml Q := by
  intro p e s m args below meth c H locs cells slots mc ms ls ad ad0 n0 R P
  obtain ⟨hc, hE, hS, hl, hRep, hoL, hoS, hr, ha⟩ := P
  exact lv_icmp_ge hc.1 hc.2.1 hd ht (fun z => (kt z p e s m args below meth c H locs cells slots mc ms ls ad ad0 n0 R ⟨hc, hE, hS, hl, hRep, hoL, okS_t (okS_t hoS), hr, ha⟩)) (fun z => (kf z p e s m args below meth c H locs cells slots mc ms ls ad ad0 n0 R ⟨hc, hE, hS, hl, hRep, hoL, okS_t (okS_t hoS), hr, ha⟩))
theorem X_icmp_gt {Γ : pTG} {d k n : Nat} {M : pMD} {pc : Nat} {L : List (Nat × Value)} {S : List Value} {g : pGG} {mi : pMI} {ml : pML} {Q : pQ} {x y : Int32} {off : Int} (tgt : Nat) (hd : decode M.2.1 pc = .ok (.if_icmp .gt off, 3)) (ht : (pc : Int) + off = (tgt : Int)) (kt : y < x → XW Γ d k n M tgt L S g mi ml Q) (kf : ¬ y < x → XW Γ d k n M (pc + 3) L S g mi ml Q) : XW Γ d k n M pc L (.int y :: .int x :: S) g mi ml Q := by
  intro p e s m args below meth c H locs cells slots mc ms ls ad ad0 n0 R P
  obtain ⟨hc, hE, hS, hl, hRep, hoL, hoS, hr, ha⟩ := P
  exact lv_icmp_gt hc.1 hc.2.1 hd ht (fun z => (kt z p e s m args below meth c H locs cells slots mc ms ls ad ad0 n0 R ⟨hc, hE, hS, hl, hRep, hoL, okS_t (okS_t hoS), hr, ha⟩)) (fun z => (kf z p e s m args below meth c H locs cells slots mc ms ls ad ad0 n0 R ⟨hc, hE, hS, hl, hRep, hoL, okS_t (okS_t hoS), hr, ha⟩))
theorem X_icmp_le {Γ : pTG} {d k n : Nat} {M : pMD} {pc : Nat} {L : List (Nat × Value)} {S : List Value} {g : pGG} {mi : pMI} {ml : pML} {Q : pQ} {x y : Int32} {off : Int} (tgt : Nat) (hd : decode M.2.1 pc = .ok (.if_icmp .le off, 3)) (ht : (pc : Int) + off = (tgt : Int)) (kt : x ≤ y → XW Γ d k n M tgt L S g mi ml Q) (kf : ¬ x ≤ y → XW Γ d k n M (pc + 3) L S g mi ml Q) : XW Γ d k n M pc L (.int y :: .int x :: S) g mi ml Q := by
  intro p e s m args below meth c H locs cells slots mc ms ls ad ad0 n0 R P
  obtain ⟨hc, hE, hS, hl, hRep, hoL, hoS, hr, ha⟩ := P
  exact lv_icmp_le hc.1 hc.2.1 hd ht (fun z => (kt z p e s m args below meth c H locs cells slots mc ms ls ad ad0 n0 R ⟨hc, hE, hS, hl, hRep, hoL, okS_t (okS_t hoS), hr, ha⟩)) (fun z => (kf z p e s m args below meth c H locs cells slots mc ms ls ad ad0 n0 R ⟨hc, hE, hS, hl, hRep, hoL, okS_t (okS_t hoS), hr, ha⟩))
theorem X_if_eq {Γ : pTG} {d k n : Nat} {M : pMD} {pc : Nat} {L : List (Nat × Value)} {S : List Value} {g : pGG} {mi : pMI} {ml : pML} {Q : pQ} {x : Int32} {off : Int} (tgt : Nat) (hd : decode M.2.1 pc = .ok (.ifCond .eq off, 3)) (ht : (pc : Int) + off = (tgt : Int)) (kt : x = 0 → XW Γ d k n M tgt L S g mi ml Q) (kf : ¬ x = 0 → XW Γ d k n M (pc + 3) L S g mi ml Q) : XW Γ d k n M pc L (.int x :: S) g mi ml Q := by
  intro p e s m args below meth c H locs cells slots mc ms ls ad ad0 n0 R P
  obtain ⟨hc, hE, hS, hl, hRep, hoL, hoS, hr, ha⟩ := P
  exact lv_if_eq hc.1 hc.2.1 hd ht (fun z => (kt z p e s m args below meth c H locs cells slots mc ms ls ad ad0 n0 R ⟨hc, hE, hS, hl, hRep, hoL, okS_t hoS, hr, ha⟩)) (fun z => (kf z p e s m args below meth c H locs cells slots mc ms ls ad ad0 n0 R ⟨hc, hE, hS, hl, hRep, hoL, okS_t hoS, hr, ha⟩))
theorem X_if_ne {Γ : pTG} {d k n : Nat} {M : pMD} {pc : Nat} {L : List (Nat × Value)} {S : List Value} {g : pGG} {mi : pMI} {ml : pML} {Q : pQ} {x : Int32} {off : Int} (tgt : Nat) (hd : decode M.2.1 pc = .ok (.ifCond .ne off, 3)) (ht : (pc : Int) + off = (tgt : Int)) (kt : ¬ x = 0 → XW Γ d k n M tgt L S g mi ml Q) (kf : x = 0 → XW Γ d k n M (pc + 3) L S g mi ml Q) : XW Γ d k n M pc L (.int x :: S) g mi ml Q := by
  intro p e s m args below meth c H locs cells slots mc ms ls ad ad0 n0 R P
  obtain ⟨hc, hE, hS, hl, hRep, hoL, hoS, hr, ha⟩ := P
  exact lv_if_ne hc.1 hc.2.1 hd ht (fun z => (kt z p e s m args below meth c H locs cells slots mc ms ls ad ad0 n0 R ⟨hc, hE, hS, hl, hRep, hoL, okS_t hoS, hr, ha⟩)) (fun z => (kf z p e s m args below meth c H locs cells slots mc ms ls ad ad0 n0 R ⟨hc, hE, hS, hl, hRep, hoL, okS_t hoS, hr, ha⟩))
theorem X_if_lt {Γ : pTG} {d k n : Nat} {M : pMD} {pc : Nat} {L : List (Nat × Value)} {S : List Value} {g : pGG} {mi : pMI} {ml : pML} {Q : pQ} {x : Int32} {off : Int} (tgt : Nat) (hd : decode M.2.1 pc = .ok (.ifCond .lt off, 3)) (ht : (pc : Int) + off = (tgt : Int)) (kt : x < 0 → XW Γ d k n M tgt L S g mi ml Q) (kf : ¬ x < 0 → XW Γ d k n M (pc + 3) L S g mi ml Q) : XW Γ d k n M pc L (.int x :: S) g mi ml Q := by
  intro p e s m args below meth c H locs cells slots mc ms ls ad ad0 n0 R P
  obtain ⟨hc, hE, hS, hl, hRep, hoL, hoS, hr, ha⟩ := P
  exact lv_if_lt hc.1 hc.2.1 hd ht (fun z => (kt z p e s m args below meth c H locs cells slots mc ms ls ad ad0 n0 R ⟨hc, hE, hS, hl, hRep, hoL, okS_t hoS, hr, ha⟩)) (fun z => (kf z p e s m args below meth c H locs cells slots mc ms ls ad ad0 n0 R ⟨hc, hE, hS, hl, hRep, hoL, okS_t hoS, hr, ha⟩))
theorem X_if_ge {Γ : pTG} {d k n : Nat} {M : pMD} {pc : Nat} {L : List (Nat × Value)} {S : List Value} {g : pGG} {mi : pMI} {ml : pML} {Q : pQ} {x : Int32} {off : Int} (tgt : Nat) (hd : decode M.2.1 pc = .ok (.ifCond .ge off, 3)) (ht : (pc : Int) + off = (tgt : Int)) (kt : 0 ≤ x → XW Γ d k n M tgt L S g mi ml Q) (kf : ¬ 0 ≤ x → XW Γ d k n M (pc + 3) L S g mi ml Q) : XW Γ d k n M pc L (.int x :: S) g mi ml Q := by
  intro p e s m args below meth c H locs cells slots mc ms ls ad ad0 n0 R P
  obtain ⟨hc, hE, hS, hl, hRep, hoL, hoS, hr, ha⟩ := P
  exact lv_if_ge hc.1 hc.2.1 hd ht (fun z => (kt z p e s m args below meth c H locs cells slots mc ms ls ad ad0 n0 R ⟨hc, hE, hS, hl, hRep, hoL, okS_t hoS, hr, ha⟩)) (fun z => (kf z p e s m args below meth c H locs cells slots mc ms ls ad ad0 n0 R ⟨hc, hE, hS, hl, hRep, hoL, okS_t hoS, hr, ha⟩))
theorem X_if_gt {Γ : pTG} {d k n : Nat} {M : pMD} {pc : Nat} {L : List (Nat × Value)} {S : List Value} {g : pGG} {mi : pMI} {ml : pML} {Q : pQ} {x : Int32} {off : Int} (tgt : Nat) (hd : decode M.2.1 pc = .ok (.ifCond .gt off, 3)) (ht : (pc : Int) + off = (tgt : Int)) (kt : 0 < x → XW Γ d k n M tgt L S g mi ml Q) (kf : ¬ 0 < x → XW Γ d k n M (pc + 3) L S g mi ml Q) : XW Γ d k n M pc L (.int x :: S) g mi ml Q := by
  intro p e s m args below meth c H locs cells slots mc ms ls ad ad0 n0 R P
  obtain ⟨hc, hE, hS, hl, hRep, hoL, hoS, hr, ha⟩ := P
  exact lv_if_gt hc.1 hc.2.1 hd ht (fun z => (kt z p e s m args below meth c H locs cells slots mc ms ls ad ad0 n0 R ⟨hc, hE, hS, hl, hRep, hoL, okS_t hoS, hr, ha⟩)) (fun z => (kf z p e s m args below meth c H locs cells slots mc ms ls ad ad0 n0 R ⟨hc, hE, hS, hl, hRep, hoL, okS_t hoS, hr, ha⟩))
theorem X_if_le {Γ : pTG} {d k n : Nat} {M : pMD} {pc : Nat} {L : List (Nat × Value)} {S : List Value} {g : pGG} {mi : pMI} {ml : pML} {Q : pQ} {x : Int32} {off : Int} (tgt : Nat) (hd : decode M.2.1 pc = .ok (.ifCond .le off, 3)) (ht : (pc : Int) + off = (tgt : Int)) (kt : x ≤ 0 → XW Γ d k n M tgt L S g mi ml Q) (kf : ¬ x ≤ 0 → XW Γ d k n M (pc + 3) L S g mi ml Q) : XW Γ d k n M pc L (.int x :: S) g mi ml Q := by
  intro p e s m args below meth c H locs cells slots mc ms ls ad ad0 n0 R P
  obtain ⟨hc, hE, hS, hl, hRep, hoL, hoS, hr, ha⟩ := P
  exact lv_if_le hc.1 hc.2.1 hd ht (fun z => (kt z p e s m args below meth c H locs cells slots mc ms ls ad ad0 n0 R ⟨hc, hE, hS, hl, hRep, hoL, okS_t hoS, hr, ha⟩)) (fun z => (kf z p e s m args below meth c H locs cells slots mc ms ls ad ad0 n0 R ⟨hc, hE, hS, hl, hRep, hoL, okS_t hoS, hr, ha⟩))
theorem X_goto {Γ : pTG} {d k n : Nat} {M : pMD} {pc : Nat} {L : List (Nat × Value)} {S : List Value} {g : pGG} {mi : pMI} {ml : pML} {Q : pQ} {off : Int} (tgt : Nat) (hd : decode M.2.1 pc = .ok (.goto off, 3)) (ht : (pc : Int) + off = (tgt : Int)) (h : XW Γ d k n M tgt L S g mi ml Q) : XW Γ d k n M pc L S g mi ml Q := by
  intro p e s m args below meth c H locs cells slots mc ms ls ad ad0 n0 R P
  obtain ⟨hc, hE, hS, hl, hRep, hoL, hoS, hr, ha⟩ := P
  exact lv_goto hc.1 hc.2.1 hd ht (h p e s m args below meth c H locs cells slots mc ms ls ad ad0 n0 R ⟨hc, hE, hS, hl, hRep, hoL, hoS, hr, ha⟩)
theorem X_ifnull {Γ : pTG} {d k n : Nat} {M : pMD} {pc : Nat} {L : List (Nat × Value)} {S : List Value} {g : pGG} {mi : pMI} {ml : pML} {Q : pQ} {r : Option Nat} {off : Int} (tgt : Nat) (hd : decode M.2.1 pc = .ok (.ifnull off, 3)) (ht : (pc : Int) + off = (tgt : Int)) (kt : r = none → XW Γ d k n M tgt L S g mi ml Q) (kf : ∀ a, r = some a → XW Γ d k n M (pc + 3) L S g mi ml Q) : XW Γ d k n M pc L (va_rf r :: S) g mi ml Q := by
  intro p e s m args below meth c H locs cells slots mc ms ls ad ad0 n0 R P
  obtain ⟨hc, hE, hS, hl, hRep, hoL, hoS, hr, ha⟩ := P
  cases r with
  | none => exact lv_ifnullN hc.1 hc.2.1 hd ht (kt rfl p e s m args below meth c H locs cells slots mc ms ls ad ad0 n0 R ⟨hc, hE, hS, hl, hRep, hoL, okS_t hoS, hr, ha⟩)
  | some a => exact lv_ifnull hc.1 hc.2.1 hd (kf a rfl p e s m args below meth c H locs cells slots mc ms ls ad ad0 n0 R ⟨hc, hE, hS, hl, hRep, hoL, okS_t hoS, hr, ha⟩)
theorem X_ifnonnull {Γ : pTG} {d k n : Nat} {M : pMD} {pc : Nat} {L : List (Nat × Value)} {S : List Value} {g : pGG} {mi : pMI} {ml : pML} {Q : pQ} {r : Option Nat} {off : Int} (tgt : Nat) (hd : decode M.2.1 pc = .ok (.ifnonnull off, 3)) (ht : (pc : Int) + off = (tgt : Int)) (kt : ∀ a, r = some a → XW Γ d k n M tgt L S g mi ml Q) (kf : r = none → XW Γ d k n M (pc + 3) L S g mi ml Q) : XW Γ d k n M pc L (va_rf r :: S) g mi ml Q := by
  intro p e s m args below meth c H locs cells slots mc ms ls ad ad0 n0 R P
  obtain ⟨hc, hE, hS, hl, hRep, hoL, hoS, hr, ha⟩ := P
  cases r with
  | none => exact lv_ifnonnullN hc.1 hc.2.1 hd (kf rfl p e s m args below meth c H locs cells slots mc ms ls ad ad0 n0 R ⟨hc, hE, hS, hl, hRep, hoL, okS_t hoS, hr, ha⟩)
  | some a => exact lv_ifnonnull hc.1 hc.2.1 hd ht (kt a rfl p e s m args below meth c H locs cells slots mc ms ls ad ad0 n0 R ⟨hc, hE, hS, hl, hRep, hoL, okS_t hoS, hr, ha⟩)
theorem X_tableIn {Γ : pTG} {d k n : Nat} {M : pMD} {pc : Nat} {L : List (Nat × Value)} {S : List Value} {g : pGG} {mi : pMI} {ml : pML} {Q : pQ} {dflt lo hi : Int} {offs : Array Int} {len : Nat} {x : Int32} {off : Int} (tgt : Nat) (hd : decode M.2.1 pc = .ok (.tableswitch dflt lo hi offs, len)) (h1 : ¬ x.toInt < lo) (h2 : ¬ hi < x.toInt) (ho : offs[(x.toInt - lo).toNat]? = some off) (ht : (pc : Int) + off = (tgt : Int)) (h : XW Γ d k n M tgt L S g mi ml Q) : XW Γ d k n M pc L (.int x :: S) g mi ml Q := by
  intro p e s m args below meth c H locs cells slots mc ms ls ad ad0 n0 R P
  obtain ⟨hc, hE, hS, hl, hRep, hoL, hoS, hr, ha⟩ := P
  exact lv_tableIn hc.1 hc.2.1 hd h1 h2 ho ht (h p e s m args below meth c H locs cells slots mc ms ls ad ad0 n0 R ⟨hc, hE, hS, hl, hRep, hoL, okS_t hoS, hr, ha⟩)
theorem X_tableOut {Γ : pTG} {d k n : Nat} {M : pMD} {pc : Nat} {L : List (Nat × Value)} {S : List Value} {g : pGG} {mi : pMI} {ml : pML} {Q : pQ} {dflt lo hi : Int} {offs : Array Int} {len : Nat} {x : Int32} (tgt : Nat) (hd : decode M.2.1 pc = .ok (.tableswitch dflt lo hi offs, len)) (h1 : x.toInt < lo ∨ hi < x.toInt) (ht : (pc : Int) + dflt = (tgt : Int)) (h : XW Γ d k n M tgt L S g mi ml Q) : XW Γ d k n M pc L (.int x :: S) g mi ml Q := by
  intro p e s m args below meth c H locs cells slots mc ms ls ad ad0 n0 R P
  obtain ⟨hc, hE, hS, hl, hRep, hoL, hoS, hr, ha⟩ := P
  exact lv_tableOut hc.1 hc.2.1 hd h1 ht (h p e s m args below meth c H locs cells slots mc ms ls ad ad0 n0 R ⟨hc, hE, hS, hl, hRep, hoL, okS_t hoS, hr, ha⟩)
theorem X_lookup {Γ : pTG} {d k n : Nat} {M : pMD} {pc : Nat} {L : List (Nat × Value)} {S : List Value} {g : pGG} {mi : pMI} {ml : pML} {Q : pQ} {dflt : Int} {ps : Array (Int × Int)} {len : Nat} {x : Int32} {off : Int} (tgt : Nat) (hd : decode M.2.1 pc = .ok (.lookupswitch dflt ps, len)) (hp : (ps.toList.zip (ps.toList.drop 1)).all (fun (a, next) => a.1 < next.1) = true) (ho : Op.lookupswitch.offset ps.toList dflt x.toInt = off) (ht : (pc : Int) + off = (tgt : Int)) (h : XW Γ d k n M tgt L S g mi ml Q) : XW Γ d k n M pc L (.int x :: S) g mi ml Q := by
  intro p e s m args below meth c H locs cells slots mc ms ls ad ad0 n0 R P
  obtain ⟨hc, hE, hS, hl, hRep, hoL, hoS, hr, ha⟩ := P
  exact lv_lookup hc.1 hc.2.1 hd hp ho ht (h p e s m args below meth c H locs cells slots mc ms ls ad ad0 n0 R ⟨hc, hE, hS, hl, hRep, hoL, okS_t hoS, hr, ha⟩)
theorem X_iret {Γ : pTG} {d k n : Nat} {M : pMD} {pc : Nat} {L : List (Nat × Value)} {g : pGG} {mi : pMI} {ml : pML} {Q : pQ} {x : Int32} (hd : decode M.2.1 pc = .ok (.ireturn, 1)) (hr0 : M.2.2.2 = some .int) (h : Q (.inl (some (.int x))) g mi ml) : XW Γ d k n M pc L [.int x] g mi ml Q := by
  intro p e s m args below meth c H locs cells slots mc ms ls ad ad0 n0 R P
  obtain ⟨hc, hE, hS, hl, hRep, hoL, hoS, hr, ha⟩ := P
  refine W.widen (Nat.le_trans (Nat.le_add_right _ _) hr.1) (Nat.le_trans (Nat.le_add_right _ _) hr.2.1) (vx_ret (W.iret hc.1 hc.2.1 (hc.2.2.2.2.2.1.trans hr0) (fun t ht hW => ⟨⟨(some (.int x)), g, mi, ml, ad, rfl, h, by rw [ht]; exact hRep, ha.1, ha.2, fun w hw => by cases hw; exact okv_i⟩, va_S.F hS ht⟩) hS.2.2 hd hc.2.2.2.2.2.2.1))
theorem X_zret {Γ : pTG} {d k n : Nat} {M : pMD} {pc : Nat} {L : List (Nat × Value)} {g : pGG} {mi : pMI} {ml : pML} {Q : pQ} {x : Int32} {ty : FieldType} (hd : decode M.2.1 pc = .ok (.ireturn, 1)) (hr0 : M.2.2.2 = some ty) (hn : narrow ty (.int x) = .int x) (h : Q (.inl (some (.int x))) g mi ml) : XW Γ d k n M pc L [.int x] g mi ml Q := by
  intro p e s m args below meth c H locs cells slots mc ms ls ad ad0 n0 R P
  obtain ⟨hc, hE, hS, hl, hRep, hoL, hoS, hr, ha⟩ := P
  refine W.widen (Nat.le_trans (Nat.le_add_right _ _) hr.1) (Nat.le_trans (Nat.le_add_right _ _) hr.2.1) (vx_ret (W.zret hc.1 hc.2.1 (hc.2.2.2.2.2.1.trans hr0) hn (fun t ht hW => ⟨⟨(some (.int x)), g, mi, ml, ad, rfl, h, by rw [ht]; exact hRep, ha.1, ha.2, fun w hw => by cases hw; exact okv_i⟩, va_S.F hS ht⟩) hS.2.2 hd hc.2.2.2.2.2.2.1))
theorem X_lret {Γ : pTG} {d k n : Nat} {M : pMD} {pc : Nat} {L : List (Nat × Value)} {g : pGG} {mi : pMI} {ml : pML} {Q : pQ} {x : Int64} (hd : decode M.2.1 pc = .ok (.lreturn, 1)) (hr0 : M.2.2.2 = some .long) (h : Q (.inl (some (.long x))) g mi ml) : XW Γ d k n M pc L [.long x] g mi ml Q := by
  intro p e s m args below meth c H locs cells slots mc ms ls ad ad0 n0 R P
  obtain ⟨hc, hE, hS, hl, hRep, hoL, hoS, hr, ha⟩ := P
  refine W.widen (Nat.le_trans (Nat.le_add_right _ _) hr.1) (Nat.le_trans (Nat.le_add_right _ _) hr.2.1) (vx_ret (W.lret hc.1 hc.2.1 (hc.2.2.2.2.2.1.trans hr0) (fun t ht hW => ⟨⟨(some (.long x)), g, mi, ml, ad, rfl, h, by rw [ht]; exact hRep, ha.1, ha.2, fun w hw => by cases hw; exact okv_l⟩, va_S.F hS ht⟩) hS.2.2 hd hc.2.2.2.2.2.2.1))
theorem X_vret {Γ : pTG} {d k n : Nat} {M : pMD} {pc : Nat} {L : List (Nat × Value)} {g : pGG} {mi : pMI} {ml : pML} {Q : pQ}  (hd : decode M.2.1 pc = .ok (.return_, 1)) (hr0 : M.2.2.2 = none) (h : Q (.inl none) g mi ml) : XW Γ d k n M pc L [] g mi ml Q := by
  intro p e s m args below meth c H locs cells slots mc ms ls ad ad0 n0 R P
  obtain ⟨hc, hE, hS, hl, hRep, hoL, hoS, hr, ha⟩ := P
  refine W.widen (Nat.le_trans (Nat.le_add_right _ _) hr.1) (Nat.le_trans (Nat.le_add_right _ _) hr.2.1) (vx_ret (W.vret hc.1 hc.2.1 (hc.2.2.2.2.2.1.trans hr0) (fun t ht hW => ⟨⟨none, g, mi, ml, ad, rfl, h, by rw [ht]; exact hRep, ha.1, ha.2, fun w hw => by cases hw⟩, va_S.F hS ht⟩) hS.2.2 hd hc.2.2.2.2.2.2.1))
theorem X_aret {Γ : pTG} {d k n : Nat} {M : pMD} {pc : Nat} {L : List (Nat × Value)} {g : pGG} {mi : pMI} {ml : pML} {Q : pQ} {r : Option Nat} {rt : FieldType} (hd : decode M.2.1 pc = .ok (.areturn, 1)) (hr0 : M.2.2.2 = some rt) (hrt : (∃ n, rt = .object n) ∨ ∃ t, rt = .array t) (h : Q (.inl (some (va_rf r))) g mi ml) : XW Γ d k n M pc L [va_rf r] g mi ml Q := by
  intro p e s m args below meth c H locs cells slots mc ms ls ad ad0 n0 R P
  obtain ⟨hc, hE, hS, hl, hRep, hoL, hoS, hr, ha⟩ := P
  refine W.widen (Nat.le_trans (Nat.le_add_right _ _) hr.1) (Nat.le_trans (Nat.le_add_right _ _) hr.2.1) (vx_ret (W.aret hc.1 hc.2.1 (hc.2.2.2.2.2.1.trans hr0) hrt (by cases r with | none => exact Or.inl rfl | some a => exact Or.inr ⟨_, rfl⟩) (fun t ht hW => ⟨⟨(some (va_rf r)), g, mi, ml, ad, rfl, h, by rw [ht]; exact hRep, ha.1, ha.2, fun w hw => by cases hw; exact okS_h hoS⟩, va_S.F hS ht⟩) hS.2.2 hd hc.2.2.2.2.2.2.1))

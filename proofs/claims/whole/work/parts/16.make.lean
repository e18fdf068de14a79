/-! ===== making objects and arrays; constructors ===== -/
def newG (g : pGG) (e : Nat × Nat) : pGG := (g.1 + 1, (fun i => if i = g.1 then e else g.2.1 i), (fun i j => if i = g.1 then none else g.2.2 i j))
def newR {α : Type} (m : Nat → Nat → α) (n : Nat) (v : α) : Nat → Nat → α := fun i j => if i = n then v else m i j
def newA (ad : Nat → Nat) (n q : Nat) : Nat → Nat := fun i => if i = n then q else ad i
theorem newR_row {α : Type} {m : Nat → Nat → α} {n : Nat} {v : α} {i : Nat} (h : i ≠ n) : newR m n v i = m i := by funext j; simp [newR, h]
theorem map_newA {ad : Nat → Nat} {n q : Nat} {r : Option Nat} (h : ∀ a, r = some a → a < n) : r.map (newA ad n q) = r.map ad := by
  cases r with
  | none => rfl
  | some a => have := h a rfl; simp [newA]; omega
theorem entE_agree {dA : Nat → ClassId} {ad ad' : Nat → Nat} {g g' : pGG} {mi mi' : pMI} {ml ml' : pML} {i : Nat} (h1 : g'.2.1 i = g.2.1 i) (h2 : ∀ j, (g'.2.2 i j).map ad' = (g.2.2 i j).map ad) (h3 : mi' i = mi i) (h4 : ml' i = ml i) : entE dA ad' g' mi' ml' i = entE dA ad g mi ml i := by
  unfold entE fvl
  simp only [h1, h2, h3, h4]
theorem wsO_new {dA : Nat → ClassId} {ad : Nat → Nat} {g : pGG} {mi : pMI} {ml : pML} {e : Nat × Nat} {q : Nat} (hc : ∀ i, i < g.1 → ∀ k r, g.2.2 i k = some r → r < g.1) : wsO dA (newA ad g.1 q) (newG g e) (newR mi g.1 0) (newR ml g.1 0) = wsO dA ad g mi ml ++ [(q, entE dA (newA ad g.1 q) (newG g e) (newR mi g.1 0) (newR ml g.1 0) g.1)] := by
  unfold wsO
  show (List.range (g.1 + 1)).map _ = _
  rw [List.range_succ, List.map_append]
  congr 1
  · apply List.map_congr_left
    intro i hi
    have hi : i < g.1 := List.mem_range.mp hi
    have hne : i ≠ g.1 := by omega
    have e1 : newA ad g.1 q i = ad i := by simp [newA, hne]
    rw [e1, entE_agree (g := g) (mi := mi) (ml := ml) (ad := ad)]
    · simp [newG, hne]
    · intro j
      have : (newG g e).2.2 i j = g.2.2 i j := by simp [newG, hne]
      rw [this]
      exact map_newA (hc i hi j)
    · exact newR_row hne
    · exact newR_row hne
  · simp [newA]
theorem RepH.new {Γ : pTG} {ad : Nat → Nat} {g : pGG} {mi : pMI} {ml : pML} {H H1 : Heap} {e : Nat × Nat} {q : Nat} (h : RepH Γ ad g mi ml H) (hlim : g.1 < 900) (he : e.2 < 65536) (hP : va_P Γ.2.1 vwCl (wsO Γ.2.2.1 (newA ad g.1 q) (newG g e) (newR mi g.1 0) (newR ml g.1 0)) H1) (hD : va_D (regA Γ) (wsO Γ.2.2.1 (newA ad g.1 q) (newG g e) (newR mi g.1 0) (newR ml g.1 0))) : RepH Γ (newA ad g.1 q) (newG g e) (newR mi g.1 0) (newR ml g.1 0) H1 := by
  refine ⟨hP, hD, fun i hi k r hr => ?_, fun j => ?_, by show g.1 + 1 ≤ 900; omega, fun i hi => ?_, fun i => ?_⟩
  · show r < g.1 + 1
    by_cases hz : i = g.1
    · simp [newG, hz] at hr
    · have : g.2.2 i k = some r := by simpa [newG, hz] using hr
      have hi : i < g.1 + 1 := hi
      have := h.2.2.1 i (by omega) k r this
      omega
  · have : newA ad g.1 q (999 + j) = ad (999 + j) := by simp [newA]; omega
    rw [this]; exact h.2.2.2.1 j
  · have hi : g.1 + 1 ≤ i := hi
    show (if i = g.1 then e else g.2.1 i).1 = 99
    rw [if_neg (by omega)]
    exact h.2.2.2.2.2.1 i (by omega)
  · show (if i = g.1 then e else g.2.1 i).2 < 65536
    by_cases hz : i = g.1
    · rw [if_pos hz]; exact he
    · rw [if_neg hz]; exact h.2.2.2.2.2.2 i
def okT (t : FieldType) : Bool := match t with
  | .int => true
  | .boolean => true
  | .object _ => true
  | .array _ => true
  | _ => false
theorem okT_all : ∀ c, c < 13 → ∀ j, j < nfC c → okT (tyC c j) = true := by decide +kernel
theorem okT_def {t : FieldType} (h : okT t = true) : defaultValue t = if rfk t = true then .null else .int 0 := by
  cases t <;> first | rfl | cases h
def fs0 (c : Nat) : List Value := (List.range (nfC c)).map (fun k => if rfk (tyC c k) = true then .null else .int 0)
theorem fs0_at {c j : Nat} (hj : j < nfC c) : vp_V (fs0 c) j = if rfk (tyC c j) = true then .null else .int 0 := by
  unfold vp_V fs0
  rw [List.getD_eq_getElem?_getD, List.getElem?_map, List.getElem?_range hj]
  rfl
theorem entE_new {dA : Nat → ClassId} {ad : Nat → Nat} {g : pGG} {mi : pMI} {ml : pML} {c : Nat} (hc : c < 13) {q : Nat} : entE dA (newA ad g.1 q) (newG g (c, 0)) (newR mi g.1 0) (newR ml g.1 0) g.1 = .inr (c, fs0 c) := by
  have h1 : (newG g (c, 0)).2.1 g.1 = (c, 0) := by simp [newG]
  rw [entE_obj h1 hc]
  unfold fs0
  congr 2
  apply List.map_congr_left
  intro k _
  unfold fvl
  simp [newG, newR, va_rf]
/-- new, by the tables -/
def NWK (own : String) (idx c : Nat) : Prop := c < 13 ∧ Cond.classLink own idx (RC c) ∈ uxW ∧ Cond.instantiable (RC c) (nfC c) ∈ uxW ∧ Cond.initialized (RC c) ∈ uxW
section MAKE
variable {Γ : pTG} {d k n : Nat} {M : pMD} {pc : Nat} {L : List (Nat × Value)} {S : List Value} {g : pGG} {mi : pMI} {ml : pML} {Q : pQ}
theorem XP_new {p : Program} {s : State} {m : MethodId} {args : Array Value} {meth : Method} {cd : Code} {H H1 : Heap} {locs locs1 : List Loc} {cells slots mc ms : Nat} {ls : Array Slot} {ad ad0 : Nat → Nat} {n0 : Nat} {R : Room} {e : Nat × Nat} {q kk nn : Nat} (P : XP Γ d k n M L S g mi ml p s m args meth cd H locs cells slots mc ms ls ad ad0 n0 R) (hlim : g.1 < 900) (he : e.2 < 65536) (hk : kk ≤ k) (hn : nn ≤ n) (hS1 : va_S (regA Γ) s.heap H1 locs1)
    (hP : va_P Γ.2.1 vwCl (wsO Γ.2.2.1 (newA ad g.1 q) (newG g e) (newR mi g.1 0) (newR ml g.1 0)) H1) (hD : va_D (regA Γ) (wsO Γ.2.2.1 (newA ad g.1 q) (newG g e) (newR mi g.1 0) (newR ml g.1 0))) :
    XP Γ d (k - kk) (n - nn) M L (.ref g.1 :: S) (newG g e) (newR mi g.1 0) (newR ml g.1 0) p s m args meth cd H1 locs1 (cells + kk) (slots + nn) mc ms ls (newA ad g.1 q) ad0 n0 R ∧ (S.map (cv (newA ad g.1 q)) = S.map (cv ad)) ∧ newA ad g.1 q g.1 = q := by
  obtain ⟨hc, hE, hS, hl, hRep, hoL, hoS, hr, ha⟩ := P
  have a1 : ∀ i, i < g.1 → newA ad g.1 q i = ad i := fun i hi => by simp [newA]; omega
  have a2 : ∀ j, newA ad g.1 q (999 + j) = ad (999 + j) := fun j => by simp [newA]; omega
  have up : g.1 ≤ (newG g e).1 := Nat.le_succ _
  refine ⟨⟨hc, hE, hS1, by rw [cvL hoL a1 a2]; exact hl, hRep.new hlim he hP hD, fun q h => okv_up (hoL q h) up, okS_c (fun i hi => by cases hi; exact Or.inl (Nat.lt_succ_self _)) (fun v h => okv_up (hoS v h) up), ?_, fun i hi => (a1 i (Nat.lt_of_lt_of_le hi ha.2)).trans (ha.1 i hi), Nat.le_trans ha.2 up⟩, cvS hoS a1 a2, by simp [newA]⟩
  obtain ⟨h1, h2, h3⟩ := hr
  exact ⟨by omega, by omega, h3⟩
theorem X_new {idx c : Nat} (hd : decode M.2.1 pc = .ok (.new idx, 3)) (hw : NWK M.1.cls idx c) (hlim : g.1 < 900) (hk : 1 ≤ k) (hn : nfC c ≤ n) (h : XW Γ d (k - 1) (n - nfC c) M (pc + 3) L (.ref g.1 :: S) (newG g (c, 0)) (newR mi g.1 0) (newR ml g.1 0) Q) : XW Γ d k n M pc L S g mi ml Q := by
  intro p e s m args below meth cd H locs cells slots mc ms ls ad ad0 n0 R P
  have P0 := P
  obtain ⟨hc, hE, hS, hl, hRep, hoL, hoS, hr, ha⟩ := P
  obtain ⟨r1, r2, r3, r4, r5, r6⟩ := id hr
  refine va_new (cl := vwCl) (tys := tysO Γ.2.2.1) (D := Γ.2.1) (A := regA Γ) (H0 := s.heap) (ci := c) (fs := fs0 c) hc.1 hc.2.1 hc.2.2.2.2.1 (clsA hw.1).2.1 (tyC c) (clsA hw.1).2.2.1 hc.2.2.2.1 (hc.2.2.2.2.1 _ hw.2.1) (hc.2.2.2.2.1 _ hw.2.2.1) (hc.2.2.2.2.1 _ hw.2.2.2) hE.2.1 hRep.1 hRep.2.1 hS (fun q hq => Nat.le_trans hE.2.2.2.2.1 hq) (clsA hw.1).1 (fun j hj => by rw [okT_def (okT_all c hw.1 j hj), fs0_at hj]) (by omega) (by omega) hd (fun q H1 hP hD hS1 => ?_)
  rw [← entE_new (dA := Γ.2.2.1) (ad := ad) (g := g) (mi := mi) (ml := ml) hw.1 (q := q), ← wsO_new hRep.2.2.1] at hP hD
  obtain ⟨P1, e1, e2⟩ := XP_new P0 hlim (show 0 < 65536 by decide) hk hn hS1 hP hD
  have := h p e s m args below meth cd H1 locs (cells + 1) (slots + nfC c) mc ms ls _ ad0 n0 R P1
  rw [List.map_cons, e1, cv_r, e2] at this
  exact this
theorem K_same {D : va_G} {tys : List (ClassId × FieldType)} {s : State} {cA c0 : ClassId} {ty : FieldType} (hty : (∃ C, ty = .object C) ∨ ty = .int ∨ ty = .long ∨ ty = .boolean ∨ ∃ t, ty = .array t) (h1 : va_K D vwCl (tys ++ [(cA, ty)]) s) (h2 : ∃ k : Nat, tys[k]? = some (c0, ty)) : cA = c0 := by
  obtain ⟨k, hk⟩ := h2
  have hl : k < tys.length := (List.getElem?_eq_some_iff.mp hk).1
  have a := (h1.2 k (c0, ty) (by rw [List.getElem?_append_left hl]; exact hk)).2
  have b := (h1.2 tys.length (cA, ty) (by rw [List.getElem?_append_right (Nat.le_refl _), Nat.sub_self]; rfl)).2
  rcases hty with ⟨C, rfl⟩ | rfl | rfl | rfl | ⟨t, rfl⟩
  · obtain ⟨_, _, _, _, _, a4⟩ := a
    obtain ⟨_, _, _, _, _, b4⟩ := b
    exact Option.some.inj (b4.symm.trans a4)
  all_goals exact Option.some.inj (b.symm.trans a)
theorem X_newI {len : Nat} {i : Int32} (hd : decode M.2.1 pc = .ok (.newarray .int, 2)) (hw : Cond.arrayClass .int ∈ uxW) (hi : i = nI len) (hlen : len < 65536) (hlim : g.1 < 900) (hk : 1 ≤ k) (hn : len ≤ n) (h : XW Γ d (k - 1) (n - len) M (pc + 2) L (.ref g.1 :: S) (newG g (20, len)) (newR mi g.1 0) (newR ml g.1 0) Q) : XW Γ d k n M pc L (.int i :: S) g mi ml Q := by
  intro p e s m args below meth cd H locs cells slots mc ms ls ad ad0 n0 R P
  obtain ⟨hc, hE, hS, hl, hRep, hoL, hoS, hr, ha⟩ := P
  obtain ⟨r1, r2, r3, r4, r5, r6⟩ := id hr
  subst hi
  refine va_newa (cl := vwCl) (tys := tysO Γ.2.2.1) (D := Γ.2.1) (A := regA Γ) (H0 := s.heap) (atype := .int) (ty := .int) (N' := len) (a0 := (len, .inl (fun _ => 0))) hc.1 hc.2.1 (hc.2.2.2.2.1 _ hw) rfl hE.2.1 hRep.1 hRep.2.1 hS (fun q hq => Nat.le_trans hE.2.2.2.2.1 hq) (fun _ => rfl) (nI_pos (by omega)) (nI_clamp (by omega)) (by show len * 4 ≤ _; omega) (by omega) (by omega) hd (fun q cA H1 hK hP hD hS1 => ?_)
  have hcA : cA = Γ.2.2.1 0 := K_same (Or.inr (Or.inl rfl)) hK ⟨0, rfl⟩
  subst hcA
  have e0 : entE Γ.2.2.1 (newA ad g.1 q) (newG g (20, len)) (newR mi g.1 0) (newR ml g.1 0) g.1 = .inl (Γ.2.2.1 0, len, .inl (fun _ => 0)) := by
    rw [entE_int (n := len) (by simp [newG])]
    congr 4; funext j; simp [newR]
  rw [← e0, ← wsO_new hRep.2.2.1] at hP hD
  obtain ⟨P1, e1, e2⟩ := XP_new (S := S) ⟨hc, hE, hS, hl, hRep, hoL, okS_t hoS, hr, ha⟩ hlim hlen hk hn hS1 hP hD
  have := h p e s m args below meth cd H1 locs (cells + 1) (slots + len) mc ms ls _ ad0 n0 R P1
  rw [List.map_cons, e1, cv_r, e2] at this
  exact this
theorem X_newL {len : Nat} {i : Int32} (hd : decode M.2.1 pc = .ok (.newarray .long, 2)) (hw : Cond.arrayClass .long ∈ uxW) (hi : i = nI len) (hlen : len < 65536) (hlim : g.1 < 900) (hk : 1 ≤ k) (hn : len ≤ n) (h : XW Γ d (k - 1) (n - len) M (pc + 2) L (.ref g.1 :: S) (newG g (21, len)) (newR mi g.1 0) (newR ml g.1 0) Q) : XW Γ d k n M pc L (.int i :: S) g mi ml Q := by
  intro p e s m args below meth cd H locs cells slots mc ms ls ad ad0 n0 R P
  obtain ⟨hc, hE, hS, hl, hRep, hoL, hoS, hr, ha⟩ := P
  obtain ⟨r1, r2, r3, r4, r5, r6⟩ := id hr
  subst hi
  refine va_newa (cl := vwCl) (tys := tysO Γ.2.2.1) (D := Γ.2.1) (A := regA Γ) (H0 := s.heap) (atype := .long) (ty := .long) (N' := len) (a0 := (len, .inr (.inl (fun _ => 0)))) hc.1 hc.2.1 (hc.2.2.2.2.1 _ hw) rfl hE.2.1 hRep.1 hRep.2.1 hS (fun q hq => Nat.le_trans hE.2.2.2.2.1 hq) (fun _ => rfl) (nI_pos (by omega)) (nI_clamp (by omega)) (by show len * 8 ≤ _; omega) (by omega) (by omega) hd (fun q cA H1 hK hP hD hS1 => ?_)
  have hcA : cA = Γ.2.2.1 1 := K_same (Or.inr (Or.inr (Or.inl rfl))) hK ⟨1, rfl⟩
  subst hcA
  have e0 : entE Γ.2.2.1 (newA ad g.1 q) (newG g (21, len)) (newR mi g.1 0) (newR ml g.1 0) g.1 = .inl (Γ.2.2.1 1, len, .inr (.inl (fun _ => 0))) := by
    rw [entE_long (n := len) (by simp [newG])]
    congr 5; funext j; simp [newR]
  rw [← e0, ← wsO_new hRep.2.2.1] at hP hD
  obtain ⟨P1, e1, e2⟩ := XP_new (S := S) ⟨hc, hE, hS, hl, hRep, hoL, okS_t hoS, hr, ha⟩ hlim hlen hk hn hS1 hP hD
  have := h p e s m args below meth cd H1 locs (cells + 1) (slots + len) mc ms ls _ ad0 n0 R P1
  rw [List.map_cons, e1, cv_r, e2] at this
  exact this
theorem X_newZ {len : Nat} {i : Int32} (hd : decode M.2.1 pc = .ok (.newarray .boolean, 2)) (hw : Cond.arrayClass .boolean ∈ uxW) (hi : i = nI len) (hlen : len < 65536) (hlim : g.1 < 900) (hk : 1 ≤ k) (hn : len ≤ n) (h : XW Γ d (k - 1) (n - len) M (pc + 2) L (.ref g.1 :: S) (newG g (22, len)) (newR mi g.1 0) (newR ml g.1 0) Q) : XW Γ d k n M pc L (.int i :: S) g mi ml Q := by
  intro p e s m args below meth cd H locs cells slots mc ms ls ad ad0 n0 R P
  obtain ⟨hc, hE, hS, hl, hRep, hoL, hoS, hr, ha⟩ := P
  obtain ⟨r1, r2, r3, r4, r5, r6⟩ := id hr
  subst hi
  refine va_newa (cl := vwCl) (tys := tysO Γ.2.2.1) (D := Γ.2.1) (A := regA Γ) (H0 := s.heap) (atype := .boolean) (ty := .boolean) (N' := len) (a0 := (len, .inl (fun _ => 0))) hc.1 hc.2.1 (hc.2.2.2.2.1 _ hw) rfl hE.2.1 hRep.1 hRep.2.1 hS (fun q hq => Nat.le_trans hE.2.2.2.2.1 hq) (fun _ => rfl) (nI_pos (by omega)) (nI_clamp (by omega)) (by show len * 1 ≤ _; omega) (by omega) (by omega) hd (fun q cA H1 hK hP hD hS1 => ?_)
  have hcA : cA = Γ.2.2.1 2 := K_same (Or.inr (Or.inr (Or.inr (Or.inl rfl)))) hK ⟨2, rfl⟩
  subst hcA
  have e0 : entE Γ.2.2.1 (newA ad g.1 q) (newG g (22, len)) (newR mi g.1 0) (newR ml g.1 0) g.1 = .inl (Γ.2.2.1 2, len, .inl (fun _ => 0)) := by
    rw [entE_bool (n := len) (by simp [newG])]
    congr 4; funext j; simp [newR]
  rw [← e0, ← wsO_new hRep.2.2.1] at hP hD
  obtain ⟨P1, e1, e2⟩ := XP_new (S := S) ⟨hc, hE, hS, hl, hRep, hoL, okS_t hoS, hr, ha⟩ hlim hlen hk hn hS1 hP hD
  have := h p e s m args below meth cd H1 locs (cells + 1) (slots + len) mc ms ls _ ad0 n0 R P1
  rw [List.map_cons, e1, cv_r, e2] at this
  exact this
theorem X_newQ {len idx : Nat} {i : Int32} (hd : decode M.2.1 pc = .ok (.anewarray idx, 3)) (hw : Cond.classLink M.1.cls idx "PoolTowels$Image" ∈ uxW) (hi : i = nI len) (hlen : len < 65536) (hlim : g.1 < 900) (hk : 1 ≤ k) (hn : len ≤ n) (h : XW Γ d (k - 1) (n - len) M (pc + 3) L (.ref g.1 :: S) (newG g (24, len)) (newR mi g.1 0) (newR ml g.1 0) Q) : XW Γ d k n M pc L (.int i :: S) g mi ml Q := by
  intro p e s m args below meth cd H locs cells slots mc ms ls ad ad0 n0 R P
  obtain ⟨hc, hE, hS, hl, hRep, hoL, hoS, hr, ha⟩ := P
  obtain ⟨r1, r2, r3, r4, r5, r6⟩ := id hr
  subst hi
  refine va_newq (cl := vwCl) (tys := tysO Γ.2.2.1) (D := Γ.2.1) (A := regA Γ) (H0 := s.heap) (N' := len) hc.1 hc.2.1 hc.2.2.2.1 (hc.2.2.2.2.1 _ hw) hE.1.1 hE.2.1 hRep.1 hRep.2.1 hS (fun q hq => Nat.le_trans hE.2.2.2.2.1 hq) (nI_pos (by omega)) (nI_clamp (by omega)) (by omega) (by omega) (by omega) hd (fun q cA H1 hK hP hD hS1 => ?_)
  have hcA : cA = Γ.2.2.1 4 := K_same (Or.inl ⟨_, rfl⟩) hK ⟨4, rfl⟩
  subst hcA
  have e0 : entE Γ.2.2.1 (newA ad g.1 q) (newG g (24, len)) (newR mi g.1 0) (newR ml g.1 0) g.1 = .inl (Γ.2.2.1 4, len, .inr (.inr (.inr (.inr (fun _ => none))))) := by
    rw [entE_img (n := len) (by simp [newG])]
    congr 8; funext j; simp [newG]
  rw [← e0, ← wsO_new hRep.2.2.1] at hP hD
  obtain ⟨P1, e1, e2⟩ := XP_new (S := S) ⟨hc, hE, hS, hl, hRep, hoL, okS_t hoS, hr, ha⟩ hlim hlen hk hn hS1 hP hD
  have := h p e s m args below meth cd H1 locs (cells + 1) (slots + len) mc ms ls _ ad0 n0 R P1
  rw [List.map_cons, e1, cv_r, e2] at this
  exact this
end MAKE

/-! ===== new int[N][K] ===== -/
def mulG (g : pGG) (N K : Nat) : pGG := (g.1 + 1 + N, (fun i => if i = g.1 then (23, N) else if g.1 < i ∧ i ≤ g.1 + N then (20, K) else g.2.1 i), (fun i j => if i = g.1 then (if j < N then some (g.1 + 1 + j) else none) else if g.1 < i ∧ i ≤ g.1 + N then none else g.2.2 i j))
def mulR {α : Type} (m : Nat → Nat → α) (b N : Nat) (v : α) : Nat → Nat → α := fun i j => if b ≤ i ∧ i ≤ b + N then v else m i j
def mulA (ad : Nat → Nat) (b N q : Nat) (r : Nat → Nat) : Nat → Nat := fun i => if i = b then q else if b < i ∧ i ≤ b + N then r (i - b - 1) else ad i
theorem wsO_mul {dA : Nat → ClassId} {ad : Nat → Nat} {g : pGG} {mi : pMI} {ml : pML} {N K q : Nat} {r : Nat → Nat} (hc : ∀ i, i < g.1 → ∀ k x, g.2.2 i k = some x → x < g.1) : wsO dA (mulA ad g.1 N q r) (mulG g N K) (mulR mi g.1 N 0) (mulR ml g.1 N 0) = (wsO dA ad g mi ml ++ [(q, .inl (dA 3, N, .inr (.inr (.inr (.inr (fun i => if i < N then some (r i) else none))))))]) ++ (List.range N).map (fun i => (r i, .inl (dA 0, K, .inl (fun _ => 0)))) := by
  unfold wsO
  show (List.range (g.1 + 1 + N)).map _ = _
  rw [List.range_add, List.map_append, List.range_succ, List.map_append]
  congr 1
  · congr 1
    · apply List.map_congr_left
      intro i hi
      have hi : i < g.1 := List.mem_range.mp hi
      have e1 : mulA ad g.1 N q r i = ad i := by unfold mulA; rw [if_neg (by omega), if_neg (by omega)]
      rw [e1, entE_agree (g := g) (mi := mi) (ml := ml) (ad := ad)]
      · show (if i = g.1 then (23, N) else if g.1 < i ∧ i ≤ g.1 + N then (20, K) else g.2.1 i) = _
        rw [if_neg (by omega), if_neg (by omega)]
      · intro j
        have e2 : (mulG g N K).2.2 i j = g.2.2 i j := by
          show (if i = g.1 then _ else if g.1 < i ∧ i ≤ g.1 + N then none else g.2.2 i j) = _
          rw [if_neg (by omega), if_neg (by omega)]
        rw [e2]
        cases hr : g.2.2 i j with
        | none => rfl
        | some x =>
          have := hc i hi j x hr
          show some (mulA ad g.1 N q r x) = some (ad x)
          unfold mulA; rw [if_neg (by omega), if_neg (by omega)]
      · funext j; unfold mulR; rw [if_neg (by omega)]
      · funext j; unfold mulR; rw [if_neg (by omega)]
    · have hk : (mulG g N K).2.1 g.1 = (23, N) := by show (if g.1 = g.1 then (23, N) else _) = _; rw [if_pos rfl]
      simp only [List.map_cons, List.map_nil]
      rw [entE_arr hk]
      have e1 : mulA ad g.1 N q r g.1 = q := by unfold mulA; rw [if_pos rfl]
      rw [e1]
      congr 9
      funext j
      show (if g.1 = g.1 then (if j < N then some (g.1 + 1 + j) else none) else _).map _ = _
      rw [if_pos rfl]
      by_cases hj : j < N
      · rw [if_pos hj, if_pos hj]
        show some (mulA ad g.1 N q r (g.1 + 1 + j)) = _
        unfold mulA; rw [if_neg (by omega), if_pos (by omega), show g.1 + 1 + j - g.1 - 1 = j by omega]
      · rw [if_neg hj, if_neg hj]; rfl
  · rw [List.map_map]
    apply List.map_congr_left
    intro j hj
    have hj : j < N := List.mem_range.mp hj
    have hk : (mulG g N K).2.1 (g.1 + 1 + j) = (20, K) := by
      show (if g.1 + 1 + j = g.1 then (23, N) else if g.1 < g.1 + 1 + j ∧ g.1 + 1 + j ≤ g.1 + N then (20, K) else g.2.1 (g.1 + 1 + j)) = _
      rw [if_neg (by omega), if_pos (by omega)]
    show (mulA ad g.1 N q r (g.1 + 1 + j), entE _ _ _ _ _ (g.1 + 1 + j)) = _
    rw [entE_int hk]
    have e1 : mulA ad g.1 N q r (g.1 + 1 + j) = r j := by unfold mulA; rw [if_neg (by omega), if_pos (by omega), show g.1 + 1 + j - g.1 - 1 = j by omega]
    rw [e1]
    congr 5
    funext b; unfold mulR; rw [if_pos (by omega)]
theorem X_multi {Γ : pTG} {d k n : Nat} {M : pMD} {pc : Nat} {L : List (Nat × Value)} {S : List Value} {g : pGG} {mi : pMI} {ml : pML} {Q : pQ} {idx N K : Nat} {iN iK : Int32} (hd : decode M.2.1 pc = .ok (.multianewarray idx 2, 4)) (hw : Cond.classLink M.1.cls idx "[[I" ∈ uxW) (hw2 : Cond.arrayClass .int ∈ uxW) (h1 : iN = nI N) (h2 : iK = nI K) (hN : N < 65536) (hK : K < 65536) (hlim : g.1 + 1 + N ≤ 900) (hk : 1 + N ≤ k) (hn : N + N * K ≤ n)
    (h : XW Γ d (k - (1 + N)) (n - (N + N * K)) M (pc + 4) L (.ref g.1 :: S) (mulG g N K) (mulR mi g.1 N 0) (mulR ml g.1 N 0) Q) : XW Γ d k n M pc L (.int iK :: .int iN :: S) g mi ml Q := by
  intro p e s m args below meth cd H locs cells slots mc ms ls ad ad0 n0 R P
  obtain ⟨hc, hE, hS, hl, hRep, hoL, hoS, hr, ha⟩ := P
  obtain ⟨r1, r2, r3, r4, r5, r6⟩ := id hr
  subst h1; subst h2
  have hcy : s.vm.findClass (FieldType.array .int).toString = some (Γ.2.2.1 0) := (hE.2.1.2 0 _ rfl).2
  refine va_mna (X := wsO Γ.2.2.1 ad g mi ml) (L := []) (f := fun _ => .inr (0, [])) (ty := .int) (cl := vwCl) (tys := tysO Γ.2.2.1) (D := Γ.2.1) (A := regA Γ) (H0 := s.heap) (N' := N) (K' := K) (z := (K, .inl (fun _ => 0))) hc.1 hc.2.1 hc.2.2.2.1 (hc.2.2.2.2.1 _ hw) hE.1.2.1 (hc.2.2.2.2.1 _ hw2) hcy hE.2.1 (by rw [show va_pl [] (fun _ => (.inr (0, []) : va_E)) = [] from rfl, List.append_nil]; exact hRep.1) (by rw [show va_pl [] (fun _ => (.inr (0, []) : va_E)) = [] from rfl, List.append_nil]; exact hRep.2.1) hS (fun q hq => Nat.le_trans hE.2.2.2.2.1 hq) (nI_pos (by omega)) (nI_pos (by omega)) (nI_clamp (by omega)) (nI_clamp (by omega)) (by omega) (by show K * 4 ≤ _; omega) (by omega) rfl rfl (by omega) (by omega) (fun c => arrV_new c K (.int 0)) hd (fun q r cA H1 hinj hnot hKK hP hD hS1 => ?_)
  have hcA : cA = Γ.2.2.1 3 := K_same (Or.inr (Or.inr (Or.inr (Or.inr ⟨_, rfl⟩)))) hKK ⟨3, rfl⟩
  subst hcA
  have e0 : va_pl ([] ++ (List.range N).map r) (vr_up (fun _ => (.inr (0, []) : va_E)) ((List.range N).map r) (.inl (Γ.2.2.1 0, K, .inl (fun _ => 0)))) = (List.range N).map (fun i => (r i, .inl (Γ.2.2.1 0, K, .inl (fun _ => 0)))) := by
    unfold va_pl
    rw [List.nil_append, List.map_map]
    apply List.map_congr_left
    intro i hi
    show (r i, vr_up _ _ _ (r i)) = _
    rw [vr_up_in (List.mem_map.mpr ⟨i, hi, rfl⟩)]
  rw [e0, ← wsO_mul hRep.2.2.1] at hP hD
  have a1 : ∀ i, i < g.1 → mulA ad g.1 N q r i = ad i := fun i hi => by unfold mulA; rw [if_neg (by omega), if_neg (by omega)]
  have a2 : ∀ j, mulA ad g.1 N q r (999 + j) = ad (999 + j) := fun j => by unfold mulA; rw [if_neg (by omega), if_neg (by omega)]
  have up : g.1 ≤ (mulG g N K).1 := by show g.1 ≤ g.1 + 1 + N; omega
  have hR' : RepH Γ (mulA ad g.1 N q r) (mulG g N K) (mulR mi g.1 N 0) (mulR ml g.1 N 0) H1 := by
    refine ⟨hP, hD, fun i hi b x hx => ?_, fun j => (a2 j).trans (hRep.2.2.2.1 j), hlim, fun i hi => ?_, fun i => ?_⟩
    · show x < g.1 + 1 + N
      have hx : (if i = g.1 then (if b < N then some (g.1 + 1 + b) else none) else if g.1 < i ∧ i ≤ g.1 + N then none else g.2.2 i b) = some x := hx
      have hi : i < g.1 + 1 + N := hi
      by_cases z1 : i = g.1
      · rw [if_pos z1] at hx
        by_cases z2 : b < N
        · rw [if_pos z2] at hx; cases hx; omega
        · rw [if_neg z2] at hx; cases hx
      · rw [if_neg z1] at hx
        by_cases z2 : g.1 < i ∧ i ≤ g.1 + N
        · rw [if_pos z2] at hx; cases hx
        · rw [if_neg z2] at hx
          have := hRep.2.2.1 i (by omega) b x hx
          omega
    · have hi : g.1 + 1 + N ≤ i := hi
      show (if i = g.1 then (23, N) else if g.1 < i ∧ i ≤ g.1 + N then (20, K) else g.2.1 i).1 = 99
      rw [if_neg (by omega), if_neg (by omega)]
      exact hRep.2.2.2.2.2.1 i (by omega)
    · show (if i = g.1 then (23, N) else if g.1 < i ∧ i ≤ g.1 + N then (20, K) else g.2.1 i).2 < 65536
      by_cases z1 : i = g.1
      · rw [if_pos z1]; exact hN
      · rw [if_neg z1]
        by_cases z2 : g.1 < i ∧ i ≤ g.1 + N
        · rw [if_pos z2]; exact hK
        · rw [if_neg z2]; exact hRep.2.2.2.2.2.2 i
  have hoS2 := okS_t (okS_t hoS)
  have := h p e s m args below meth cd H1 locs (cells + (1 + N)) (slots + (N + N * K)) mc ms ls _ ad0 n0 R ⟨hc, hE, hS1, by rw [cvL hoL a1 a2]; exact hl, hR', fun q h => okv_up (hoL q h) up, okS_c (fun i hi => by cases hi; exact Or.inl (by show g.1 < g.1 + 1 + N; omega)) (fun v h => okv_up (hoS2 v h) up), ⟨by omega, by omega, r3, r4, r5, r6⟩, fun i hi => (a1 i (Nat.lt_of_lt_of_le hi ha.2)).trans (ha.1 i hi), Nat.le_trans ha.2 up⟩
  rw [List.map_cons, cvS hoS2 a1 a2, cv_r, show mulA ad g.1 N q r g.1 = q by unfold mulA; rw [if_pos rfl]] at this
  rw [show cells + 1 + N = cells + (1 + N) by omega, show slots + N + N * K = slots + (N + N * K) by omega]
  exact this

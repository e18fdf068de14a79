/-! ===== habits' grammar ===== -/
abbrev hRs : Type := Except (Nat × Nat) (Nat × List Tok × Bool)
abbrev hFn : Type := Nat → hRs
def bS (r : hRs) (f : Nat → List Tok → Bool → hRs) : hRs := match r with
  | .error e => .error e
  | .ok (e, t, a) => f e t a
def sgK (B : Nat → Int32) (n i c : Nat) (f : Nat → hRs) : hRs := if byT B n (skT B n i) = nI c then f (skT B n i + 1) else .error (1, skT B n i)
def wdK (j : Nat) (B : Nat → Int32) (n i : Nat) (f : Nat → hRs) : hRs := if wIx j B n (skT B n i) = some 0 then f (wdT B n (skT B n i)) else .error (1, skT B n i)
def cmO (x : Int32) : Option Nat := if x = nI 60 then some 9 else if x = nI 62 then some 10 else if x = nI 61 then some 11 else none
def plO (x : Int32) : Option Nat := if x = nI 43 then some 2 else if x = nI 45 then some 3 else none
def tmO (x : Int32) : Option Nat := if x = nI 42 then some 4 else if x = nI 47 then some 5 else if x = nI 37 then some 6 else none
def pairR (S : hFn) (B : Nat → Int32) (n i op : Nat) : hRs := sgK B n i 91 (fun i1 => bS (S i1) (fun e1 t1 a1 => sgK B n e1 44 (fun i2 => bS (S i2) (fun e2 t2 a2 => sgK B n e2 93 (fun e3 => .ok (e3, t1 ++ (t2 ++ [(op, 0)]), a1 || a2))))))
def choR (S : hFn) (B : Nat → Int32) (n i : Nat) : hRs := bS (S i) (fun e1 t1 a1 => match cmO (byT B n (skT B n e1)) with
  | none => .error (1, skT B n e1)
  | some op => bS (S (skT B n e1 + 1)) (fun e2 t2 a2 => wdK 2 B n e2 (fun i3 => bS (S i3) (fun e3 t3 a3 => wdK 3 B n e3 (fun i4 => bS (S i4) (fun e4 t4 a4 => .ok (e4, t1 ++ (t2 ++ ((op, 0) :: (t3 ++ (t4 ++ [(12, 0)])))), a1 || (a2 || (a3 || a4)))))))))
def unitR (S : Option hFn) (B : Nat → Int32) (n : Nat) : hFn := fun i =>
  if dgP B n (skT B n i) = true then (match numR B n i 0 100 with
    | .error e => .error e
    | .ok (v, e) => .ok (e, [(0, v)], false))
  else if byT B n (skT B n i) = nI 40 then (match S with
    | none => .error (3, skT B n i)
    | some S => bS (S (skT B n i + 1)) (fun e t a => sgK B n e 41 (fun e' => .ok (e', t, a))))
  else match wIx 1 B n (skT B n i) with
    | none => .error (1, skT B n i)
    | some k => if k < 11 then .ok (wdT B n (skT B n i), [(1, k)], decide (k = 6)) else match S with
      | none => .error (3, skT B n i)
      | some S => if k < 13 then pairR S B n (wdT B n (skT B n i)) (k - 4) else choR S B n (wdT B n (skT B n i))
def jnL (U : hFn) (O : Int32 → Option Nat) (B : Nat → Int32) (n : Nat) : Nat → Nat → List Tok → Bool → hRs
  | 0, _, _, _ => .error (0, 0)
  | f + 1, i, t, a => match O (byT B n (skT B n i)) with
    | none => .ok (skT B n i, t, a)
    | some op => bS (U (skT B n i + 1)) (fun e t2 a2 => jnL U O B n f e (t ++ (t2 ++ [(op, 0)])) (a || a2))
def jnR (U : hFn) (O : Int32 → Option Nat) (B : Nat → Int32) (n : Nat) : hFn := fun i => bS (U i) (fun e t a => jnL U O B n (n + 1) e t a)
def prodR (U : hFn) (B : Nat → Int32) (n : Nat) : hFn := jnR U tmO B n
def sumR (U : hFn) (B : Nat → Int32) (n : Nat) : hFn := jnR (prodR U B n) plO B n
def unitN (B : Nat → Int32) (n : Nat) : Nat → hFn
  | 0 => unitR none B n
  | k + 1 => unitR (some (sumR (unitN B n k) B n)) B n
/-- what the grammar's functions keep to -/
def UOK (n : Nat) (U : hFn) : Prop := ∀ i, i ≤ n → (∀ e t a, U i = .ok (e, t, a) → i < e ∧ e ≤ n ∧ i + t.length ≤ e) ∧ (∀ k p, U i = .error (k, p) → 1 ≤ k ∧ k ≤ 3)
theorem bS_ok {r : hRs} {f : Nat → List Tok → Bool → hRs} {x : Nat × List Tok × Bool} (h : bS r f = .ok x) : ∃ e t a, r = .ok (e, t, a) ∧ f e t a = .ok x := by
  cases r with
  | error e => cases h
  | ok y => obtain ⟨e, t, a⟩ := y; exact ⟨e, t, a, rfl, h⟩
theorem bS_er {r : hRs} {f : Nat → List Tok → Bool → hRs} {x : Nat × Nat} (h : bS r f = .error x) : r = .error x ∨ ∃ e t a, r = .ok (e, t, a) ∧ f e t a = .error x := by
  cases r with
  | error e => exact Or.inl h
  | ok y => obtain ⟨e, t, a⟩ := y; exact Or.inr ⟨e, t, a, rfl, h⟩
theorem sgK_ok {B : Nat → Int32} {n i c : Nat} {f : Nat → hRs} {x : Nat × List Tok × Bool} (h : sgK B n i c f = .ok x) : byT B n (skT B n i) = nI c ∧ f (skT B n i + 1) = .ok x := by
  unfold sgK at h
  split at h
  · rename_i q; exact ⟨q, h⟩
  · cases h
theorem sgK_er {B : Nat → Int32} {n i c : Nat} {f : Nat → hRs} {x : Nat × Nat} (h : sgK B n i c f = .error x) : x = (1, skT B n i) ∨ (byT B n (skT B n i) = nI c ∧ f (skT B n i + 1) = .error x) := by
  unfold sgK at h
  split at h
  · rename_i q; exact Or.inr ⟨q, h⟩
  · cases h; exact Or.inl rfl
theorem wdK_ok {j : Nat} {B : Nat → Int32} {n i : Nat} {f : Nat → hRs} {x : Nat × List Tok × Bool} (h : wdK j B n i f = .ok x) : wIx j B n (skT B n i) = some 0 ∧ f (wdT B n (skT B n i)) = .ok x := by
  unfold wdK at h
  split at h
  · rename_i q; exact ⟨q, h⟩
  · cases h
theorem wdK_er {j : Nat} {B : Nat → Int32} {n i : Nat} {f : Nat → hRs} {x : Nat × Nat} (h : wdK j B n i f = .error x) : x = (1, skT B n i) ∨ (wIx j B n (skT B n i) = some 0 ∧ f (wdT B n (skT B n i)) = .error x) := by
  unfold wdK at h
  split at h
  · rename_i q; exact Or.inr ⟨q, h⟩
  · cases h; exact Or.inl rfl
theorem cmO_r {x : Int32} {op : Nat} (h : cmO x = some op) : 9 ≤ op ∧ op ≤ 11 ∧ (x = nI 60 ∨ x = nI 62 ∨ x = nI 61) := by
  unfold cmO at h
  split at h
  · rename_i q; cases h; exact ⟨by omega, by omega, Or.inl q⟩
  · split at h
    · rename_i q; cases h; exact ⟨by omega, by omega, Or.inr (Or.inl q)⟩
    · split at h
      · rename_i q; cases h; exact ⟨by omega, by omega, Or.inr (Or.inr q)⟩
      · cases h
theorem cm_lt {B : Nat → Int32} {n i op : Nat} (h : cmO (byT B n i) = some op) : i + 1 ≤ n := by
  rcases (cmO_r h).2.2 with q | q | q <;> exact by_lt q
/-- signs that join: below 9, and none at the end -/
def OOK (O : Int32 → Option Nat) : Prop := ∀ x op, O x = some op → 2 ≤ op ∧ op ≤ 6 ∧ ¬ x = -1
theorem plO_k : OOK plO := fun x op h => by
  unfold plO at h
  split at h
  · rename_i q; cases h; exact ⟨by omega, by omega, by rw [q]; decide⟩
  · split at h
    · rename_i q; cases h; exact ⟨by omega, by omega, by rw [q]; decide⟩
    · cases h
theorem tmO_k : OOK tmO := fun x op h => by
  unfold tmO at h
  split at h
  · rename_i q; cases h; exact ⟨by omega, by omega, by rw [q]; decide⟩
  · split at h
    · rename_i q; cases h; exact ⟨by omega, by omega, by rw [q]; decide⟩
    · split at h
      · rename_i q; cases h; exact ⟨by omega, by omega, by rw [q]; decide⟩
      · cases h
theorem O_lt {O : Int32 → Option Nat} (hO : OOK O) {B : Nat → Int32} {n i op : Nat} (h : O (byT B n i) = some op) : i + 1 ≤ n := by
  by_cases q : i < n
  · exact q
  · exact absurd (if_neg q) (hO _ _ h).2.2
theorem jnL_ok {U : hFn} {O : Int32 → Option Nat} {B : Nat → Int32} {n : Nat} (hU : UOK n U) (hO : OOK O) : ∀ (f i : Nat) (t : List Tok) (a : Bool), i ≤ n → n < i + f → (∀ e t' a', jnL U O B n f i t a = .ok (e, t', a') → i ≤ e ∧ e ≤ n ∧ i + t'.length ≤ e + t.length) ∧ (∀ k p, jnL U O B n f i t a = .error (k, p) → 1 ≤ k ∧ k ≤ 3)
  | 0, i, t, a, hi, hf => absurd hf (by omega)
  | f + 1, i, t, a, hi, hf => by
    have hs := skT_le (B := B) hi
    have hg := skT_ge (B := B) (n := n) (i := i)
    unfold jnL
    cases hq : O (byT B n (skT B n i)) with
    | none =>
      dsimp only
      exact ⟨fun e t' a' h => by cases h; exact ⟨hg, hs, by omega⟩, fun k p h => by cases h⟩
    | some op =>
      dsimp only
      have hl := O_lt hO hq
      obtain ⟨u1, u2⟩ := hU (skT B n i + 1) hl
      refine ⟨fun e t' a' h => ?_, fun k p h => ?_⟩
      · obtain ⟨e1, t1, a1, h1, h2⟩ := bS_ok h
        obtain ⟨b1, b2, b3⟩ := u1 e1 t1 a1 h1
        obtain ⟨c1, c2, c3⟩ := (jnL_ok hU hO f e1 _ _ b2 (by omega)).1 e t' a' h2
        rw [List.length_append, List.length_append, List.length_singleton] at c3
        exact ⟨by omega, c2, by omega⟩
      · rcases bS_er h with h | ⟨e1, t1, a1, h1, h2⟩
        · exact u2 k p h
        · obtain ⟨b1, b2, b3⟩ := u1 e1 t1 a1 h1
          exact (jnL_ok hU hO f e1 _ _ b2 (by omega)).2 k p h2
theorem jnR_ok {U : hFn} {O : Int32 → Option Nat} {B : Nat → Int32} {n : Nat} (hU : UOK n U) (hO : OOK O) : UOK n (jnR U O B n) := fun i hi => by
  obtain ⟨u1, u2⟩ := hU i hi
  refine ⟨fun e t' a' h => ?_, fun k p h => ?_⟩
  · obtain ⟨e1, t1, a1, h1, h2⟩ := bS_ok h
    obtain ⟨b1, b2, b3⟩ := u1 e1 t1 a1 h1
    obtain ⟨c1, c2, c3⟩ := (jnL_ok hU hO (n + 1) e1 t1 a1 b2 (by omega)).1 e t' a' h2
    exact ⟨by omega, c2, by omega⟩
  · rcases bS_er h with h | ⟨e1, t1, a1, h1, h2⟩
    · exact u2 k p h
    · obtain ⟨b1, b2, b3⟩ := u1 e1 t1 a1 h1
      exact (jnL_ok hU hO (n + 1) e1 t1 a1 b2 (by omega)).2 k p h2
theorem pair_ok {S : hFn} {B : Nat → Int32} {n : Nat} (hS : UOK n S) (op : Nat) : UOK n (fun i => pairR S B n i op) := fun i hi => by
  have hs := skT_le (B := B) hi
  have hg := skT_ge (B := B) (n := n) (i := i)
  refine ⟨fun e t a h => ?_, fun k p h => ?_⟩
  · obtain ⟨q1, h⟩ := sgK_ok h
    have l1 := by_lt q1
    obtain ⟨e1, t1, a1, h1, h⟩ := bS_ok h
    obtain ⟨b1, b2, b3⟩ := (hS _ l1).1 _ _ _ h1
    obtain ⟨q2, h⟩ := sgK_ok h
    have l2 := by_lt q2
    have g2 := skT_ge (B := B) (n := n) (i := e1)
    obtain ⟨e2, t2, a2, h2, h⟩ := bS_ok h
    obtain ⟨c1, c2, c3⟩ := (hS _ l2).1 _ _ _ h2
    obtain ⟨q3, h⟩ := sgK_ok h
    have l3 := by_lt q3
    have g3 := skT_ge (B := B) (n := n) (i := e2)
    cases h
    rw [List.length_append, List.length_append, List.length_singleton]
    exact ⟨by omega, l3, by omega⟩
  · rcases sgK_er h with h | ⟨q1, h⟩
    · cases h; decide
    have l1 := by_lt q1
    rcases bS_er h with h | ⟨e1, t1, a1, h1, h⟩
    · exact (hS _ l1).2 _ _ h
    obtain ⟨b1, b2, b3⟩ := (hS _ l1).1 _ _ _ h1
    rcases sgK_er h with h | ⟨q2, h⟩
    · cases h; decide
    have l2 := by_lt q2
    rcases bS_er h with h | ⟨e2, t2, a2, h2, h⟩
    · exact (hS _ l2).2 _ _ h
    rcases sgK_er h with h | ⟨q3, h⟩
    · cases h; decide
    cases h
theorem cho_ok {S : hFn} {B : Nat → Int32} {n : Nat} (hS : UOK n S) : UOK n (fun i => choR S B n i) := fun i hi => by
  refine ⟨fun e t a h => ?_, fun k p h => ?_⟩
  · obtain ⟨e1, t1, a1, h1, h⟩ := bS_ok h
    obtain ⟨b1, b2, b3⟩ := (hS _ hi).1 _ _ _ h1
    have g1 := skT_ge (B := B) (n := n) (i := e1)
    cases hc : cmO (byT B n (skT B n e1)) with
    | none => rw [hc] at h; cases h
    | some op =>
      rw [hc] at h
      have l1 := cm_lt hc
      obtain ⟨e2, t2, a2, h2, h⟩ := bS_ok h
      obtain ⟨c1, c2, c3⟩ := (hS _ l1).1 _ _ _ h2
      obtain ⟨q3, h⟩ := wdK_ok h
      have g3 := skT_ge (B := B) (n := n) (i := e2)
      have w3 := wdT_gt (by decide) q3
      have v3 := wdT_le (B := B) (skT_le (B := B) c2)
      obtain ⟨e3, t3, a3, h3, h⟩ := bS_ok h
      obtain ⟨d1, d2, d3⟩ := (hS _ v3).1 _ _ _ h3
      obtain ⟨q4, h⟩ := wdK_ok h
      have g4 := skT_ge (B := B) (n := n) (i := e3)
      have w4 := wdT_gt (by decide) q4
      have v4 := wdT_le (B := B) (skT_le (B := B) d2)
      obtain ⟨e4, t4, a4, h4, h⟩ := bS_ok h
      obtain ⟨x1, x2, x3⟩ := (hS _ v4).1 _ _ _ h4
      cases h
      rw [List.length_append, List.length_append, List.length_cons, List.length_append, List.length_append, List.length_singleton]
      exact ⟨by omega, x2, by omega⟩
  · rcases bS_er h with h | ⟨e1, t1, a1, h1, h⟩
    · exact (hS _ hi).2 _ _ h
    obtain ⟨b1, b2, b3⟩ := (hS _ hi).1 _ _ _ h1
    cases hc : cmO (byT B n (skT B n e1)) with
    | none => rw [hc] at h; cases h; decide
    | some op =>
      rw [hc] at h
      have l1 := cm_lt hc
      rcases bS_er h with h | ⟨e2, t2, a2, h2, h⟩
      · exact (hS _ l1).2 _ _ h
      obtain ⟨c1, c2, c3⟩ := (hS _ l1).1 _ _ _ h2
      rcases wdK_er h with h | ⟨q3, h⟩
      · cases h; decide
      have v3 := wdT_le (B := B) (skT_le (B := B) c2)
      rcases bS_er h with h | ⟨e3, t3, a3, h3, h⟩
      · exact (hS _ v3).2 _ _ h
      obtain ⟨d1, d2, d3⟩ := (hS _ v3).1 _ _ _ h3
      rcases wdK_er h with h | ⟨q4, h⟩
      · cases h; decide
      have v4 := wdT_le (B := B) (skT_le (B := B) d2)
      rcases bS_er h with h | ⟨e4, t4, a4, h4, h⟩
      · exact (hS _ v4).2 _ _ h
      cases h
theorem unit_ok {S : Option hFn} {B : Nat → Int32} {n : Nat} (hS : ∀ S', S = some S' → UOK n S') : UOK n (unitR S B n) := fun i hi => by
  have hs := skT_le (B := B) hi
  have hg := skT_ge (B := B) (n := n) (i := i)
  unfold unitR
  by_cases hd : dgP B n (skT B n i) = true
  · rw [if_pos hd]
    cases hN : numR B n i 0 100 with
    | error x => obtain ⟨k, p⟩ := x; exact ⟨fun e t a h => (by cases h), fun k p h => by cases h; have := numR_k hN; omega⟩
    | ok x =>
      obtain ⟨v, e⟩ := x
      obtain ⟨x1, x2, _, _⟩ := numR_o hi hN
      exact ⟨fun e t a h => by cases h; exact ⟨x2, x1, by rw [List.length_singleton]; omega⟩, fun k p h => by cases h⟩
  · rw [if_neg hd]
    by_cases hp : byT B n (skT B n i) = nI 40
    · rw [if_pos hp]
      have l1 := by_lt hp
      cases S with
      | none => exact ⟨fun e t a h => (by cases h), fun k p h => by cases h; decide⟩
      | some S =>
        have hS := hS S rfl
        refine ⟨fun e t a h => ?_, fun k p h => ?_⟩
        · obtain ⟨e1, t1, a1, h1, h⟩ := bS_ok h
          obtain ⟨b1, b2, b3⟩ := (hS _ l1).1 _ _ _ h1
          obtain ⟨q2, h⟩ := sgK_ok h
          have l2 := by_lt q2
          have g2 := skT_ge (B := B) (n := n) (i := e1)
          cases h
          exact ⟨by omega, l2, by omega⟩
        · rcases bS_er h with h | ⟨e1, t1, a1, h1, h⟩
          · exact (hS _ l1).2 _ _ h
          rcases sgK_er h with h | ⟨q2, h⟩
          · cases h; decide
          cases h
    · rw [if_neg hp]
      cases hW : wIx 1 B n (skT B n i) with
      | none => exact ⟨fun e t a h => (by cases h), fun k p h => by cases h; decide⟩
      | some k =>
        dsimp only
        have w1 := wdT_gt (by decide) hW
        have v1 := wdT_le (B := B) hs
        by_cases hk : k < 11
        · rw [if_pos hk]
          exact ⟨fun e t a h => by cases h; exact ⟨by omega, v1, by rw [List.length_singleton]; omega⟩, fun k p h => (by cases h)⟩
        · rw [if_neg hk]
          cases S with
          | none => exact ⟨fun e t a h => (by cases h), fun k p h => by cases h; decide⟩
          | some S =>
            have hS := hS S rfl
            dsimp only
            by_cases hk2 : k < 13
            · rw [if_pos hk2]
              obtain ⟨u1, u2⟩ := pair_ok (B := B) hS (k - 4) _ v1
              exact ⟨fun e t a h => by obtain ⟨x1, x2, x3⟩ := u1 e t a h; exact ⟨by omega, x2, by omega⟩, u2⟩
            · rw [if_neg hk2]
              obtain ⟨u1, u2⟩ := cho_ok (B := B) hS _ v1
              exact ⟨fun e t a h => by obtain ⟨x1, x2, x3⟩ := u1 e t a h; exact ⟨by omega, x2, by omega⟩, u2⟩
theorem unitN_ok {B : Nat → Int32} {n : Nat} : ∀ k, UOK n (unitN B n k)
  | 0 => unit_ok (fun S' h => by cases h)
  | k + 1 => unit_ok (fun S' h => by cases h; exact jnR_ok (jnR_ok (unitN_ok k) tmO_k) plO_k)
theorem sumN_ok {B : Nat → Int32} {n k : Nat} : UOK n (sumR (unitN B n k) B n) := jnR_ok (jnR_ok (unitN_ok k) tmO_k) plO_k
theorem prodN_ok {B : Nat → Int32} {n k : Nat} : UOK n (prodR (unitN B n k) B n) := jnR_ok (unitN_ok k) tmO_k
/-! what the steps tell -/
def nd6 (f : (Nat → Int32) → Int32) : Prop := ∀ k1 k2 : Nat → Int32, (∀ k, k ≠ 6 → k1 k = k2 k) → f k1 = f k2
theorem Vx_mono : ∀ (n n' : Nat) (L : List Tok) (f : (Nat → Int32) → Int32) (d d' : Nat), n ≤ n' → d ≤ d' → Vx n L f d → Vx n' L f d'
  | 0, _, _, _, _, _, _, _, h => h.elim
  | n + 1, 0, _, _, _, _, hn, _, _ => absurd hn (by omega)
  | n + 1, n' + 1, L, f, d, d', hn, hd, h => by
    rcases h with ⟨v, hv, h1, h2, h3⟩ | ⟨k, hk, h1, h2, h3⟩ | ⟨op, A, B, fa, fb, da, db, h1, h2, hA, hB, h5, h6, hda, hdb⟩ | ⟨op, A, B, C, D, fa, fb, fc, fd, da, db, dc, dd, h1, h2, hA, hB, hC, hD, h5, h6, hda, hdb, hdc, hdd⟩
    · exact Or.inl ⟨v, hv, h1, h2, by omega⟩
    · exact Or.inr (Or.inl ⟨k, hk, h1, h2, by omega⟩)
    · exact Or.inr (Or.inr (Or.inl ⟨op, A, B, fa, fb, da, db, h1, h2, Vx_mono n n' A fa da da (by omega) (Nat.le_refl _) hA, Vx_mono n n' B fb db db (by omega) (Nat.le_refl _) hB, h5, h6, by omega, by omega⟩))
    · exact Or.inr (Or.inr (Or.inr ⟨op, A, B, C, D, fa, fb, fc, fd, da, db, dc, dd, h1, h2, Vx_mono n n' A fa da da (by omega) (Nat.le_refl _) hA, Vx_mono n n' B fb db db (by omega) (Nat.le_refl _) hB, Vx_mono n n' C fc dc dc (by omega) (Nat.le_refl _) hC, Vx_mono n n' D fd dd dd (by omega) (Nat.le_refl _) hD, h5, h6, by omega, by omega, by omega, by omega⟩))
def VT (t : List Tok) (a : Bool) (d : Nat) : Prop := ∃ N f, Vx N t f d ∧ (a = false → nd6 f)
theorem VT_up {t : List Tok} {a : Bool} {d d' : Nat} (h : VT t a d) (hd : d ≤ d') : VT t a d' := by
  obtain ⟨N, f, h1, h2⟩ := h
  exact ⟨N, f, Vx_mono N N t f d d' (Nat.le_refl _) hd h1, h2⟩
theorem VT_op {t1 t2 : List Tok} {a1 a2 : Bool} {d1 d2 op : Nat} (h1 : VT t1 a1 d1) (h2 : VT t2 a2 d2) (ho : 2 ≤ op ∧ op ≤ 8) {d : Nat} (hd1 : d1 ≤ d) (hd2 : d2 + 1 ≤ d) : VT (t1 ++ (t2 ++ [(op, 0)])) (a1 || a2) d := by
  obtain ⟨N1, f1, v1, n1⟩ := h1
  obtain ⟨N2, f2, v2, n2⟩ := h2
  refine ⟨N1 + N2 + 1, fun kn => byO op (f1 kn) (f2 kn), Or.inr (Or.inr (Or.inl ⟨op, t1, t2, f1, f2, d1, d2, ho.1, ho.2, Vx_mono N1 _ t1 f1 d1 d1 (by omega) (Nat.le_refl _) v1, Vx_mono N2 _ t2 f2 d2 d2 (by omega) (Nat.le_refl _) v2, rfl, rfl, hd1, hd2⟩)), fun ha k1 k2 hk => ?_⟩
  rw [Bool.or_eq_false_iff] at ha
  show byO op (f1 k1) (f2 k1) = byO op (f1 k2) (f2 k2)
  rw [n1 ha.1 k1 k2 hk, n2 ha.2 k1 k2 hk]
def VOK (U : hFn) (d : Nat) : Prop := ∀ i e t a, U i = .ok (e, t, a) → VT t a d
theorem jnL_V {U : hFn} {O : Int32 → Option Nat} {B : Nat → Int32} {n d : Nat} (hU : VOK U d) (hO : OOK O) : ∀ (f i : Nat) (t : List Tok) (a : Bool), VT t a (d + 1) → ∀ e t' a', jnL U O B n f i t a = .ok (e, t', a') → VT t' a' (d + 1)
  | 0, i, t, a, hv, e, t', a', h => by cases h
  | f + 1, i, t, a, hv, e, t', a', h => by
    unfold jnL at h
    cases hq : O (byT B n (skT B n i)) with
    | none => rw [hq] at h; cases h; exact hv
    | some op =>
      rw [hq] at h
      obtain ⟨e1, t1, a1, h1, h2⟩ := bS_ok h
      obtain ⟨o1, o2, _⟩ := hO _ _ hq
      exact jnL_V hU hO f e1 _ _ (VT_op hv (hU _ _ _ _ h1) ⟨o1, by omega⟩ (Nat.le_refl _) (Nat.le_refl _)) e t' a' h2
theorem jnR_V {U : hFn} {O : Int32 → Option Nat} {B : Nat → Int32} {n d : Nat} (hU : VOK U d) (hO : OOK O) : VOK (jnR U O B n) (d + 1) := fun i e t a h => by
  obtain ⟨e1, t1, a1, h1, h2⟩ := bS_ok h
  exact jnL_V hU hO (n + 1) e1 t1 a1 (VT_up (hU _ _ _ _ h1) (by omega)) e t a h2
theorem unit_V {S : Option hFn} {B : Nat → Int32} {n d : Nat} (hS : ∀ S', S = some S' → VOK S' d) (hd1 : 1 ≤ d) : VOK (unitR S B n) (d + 2) := fun i e t a h => by
  unfold unitR at h
  by_cases hd : dgP B n (skT B n i) = true
  · rw [if_pos hd] at h
    cases hN : numR B n i 0 100 with
    | error x => rw [hN] at h; cases h
    | ok x =>
      obtain ⟨v, e0⟩ := x
      rw [hN] at h
      cases h
      have hv : v < 100 := by
        unfold numR at hN
        rw [if_pos hd] at hN
        split at hN
        · rename_i q; cases hN; exact q.2
        · cases hN
      exact ⟨1, fun _ => nI v, Or.inl ⟨v, hv, rfl, rfl, by omega⟩, fun _ _ _ _ => rfl⟩
  · rw [if_neg hd] at h
    by_cases hp : byT B n (skT B n i) = nI 40
    · rw [if_pos hp] at h
      cases S with
      | none => cases h
      | some S =>
        obtain ⟨e1, t1, a1, h1, h⟩ := bS_ok h
        obtain ⟨q2, h⟩ := sgK_ok h
        cases h
        exact VT_up (hS S rfl _ _ _ _ h1) (by omega)
    · rw [if_neg hp] at h
      cases hW : wIx 1 B n (skT B n i) with
      | none => rw [hW] at h; cases h
      | some k =>
        rw [hW] at h
        dsimp only at h
        have hk14 : k < 14 := (wIx_s hW).1
        by_cases hk : k < 11
        · rw [if_pos hk] at h
          cases h
          exact ⟨1, fun kn => kn k, Or.inr (Or.inl ⟨k, hk, rfl, rfl, by omega⟩), fun ha k1 k2 hkk => hkk k (by simpa using ha)⟩
        · rw [if_neg hk] at h
          cases S with
          | none => cases h
          | some S =>
            have hS := hS S rfl
            dsimp only at h
            by_cases hk2 : k < 13
            · rw [if_pos hk2] at h
              obtain ⟨q1, h⟩ := sgK_ok h
              obtain ⟨e1, t1, a1, h1, h⟩ := bS_ok h
              obtain ⟨q2, h⟩ := sgK_ok h
              obtain ⟨e2, t2, a2, h2, h⟩ := bS_ok h
              obtain ⟨q3, h⟩ := sgK_ok h
              cases h
              exact VT_op (hS _ _ _ _ h1) (hS _ _ _ _ h2) ⟨by omega, by omega⟩ (by omega) (by omega)
            · rw [if_neg hk2] at h
              obtain ⟨e1, t1, a1, h1, h⟩ := bS_ok h
              cases hc : cmO (byT B n (skT B n e1)) with
              | none => rw [hc] at h; cases h
              | some op =>
                rw [hc] at h
                obtain ⟨o1, o2, _⟩ := cmO_r hc
                obtain ⟨e2, t2, a2, h2, h⟩ := bS_ok h
                obtain ⟨q3, h⟩ := wdK_ok h
                obtain ⟨e3, t3, a3, h3, h⟩ := bS_ok h
                obtain ⟨q4, h⟩ := wdK_ok h
                obtain ⟨e4, t4, a4, h4, h⟩ := bS_ok h
                cases h
                obtain ⟨N1, f1, v1, n1⟩ := hS _ _ _ _ h1
                obtain ⟨N2, f2, v2, n2⟩ := hS _ _ _ _ h2
                obtain ⟨N3, f3, v3, n3⟩ := hS _ _ _ _ h3
                obtain ⟨N4, f4, v4, n4⟩ := hS _ _ _ _ h4
                refine ⟨N1 + N2 + N3 + N4 + 1, fun kn => if byO op (f1 kn) (f2 kn) = nI 1 then f3 kn else f4 kn, Or.inr (Or.inr (Or.inr ⟨op, t1, t2, t3, t4, f1, f2, f3, f4, d, d, d, d, o1, o2, Vx_mono N1 _ t1 f1 d d (by omega) (Nat.le_refl _) v1, Vx_mono N2 _ t2 f2 d d (by omega) (Nat.le_refl _) v2, Vx_mono N3 _ t3 f3 d d (by omega) (Nat.le_refl _) v3, Vx_mono N4 _ t4 f4 d d (by omega) (Nat.le_refl _) v4, rfl, rfl, by omega, by omega, by omega, by omega⟩)), fun ha k1 k2 hkk => ?_⟩
                rw [Bool.or_eq_false_iff, Bool.or_eq_false_iff, Bool.or_eq_false_iff] at ha
                show (if byO op (f1 k1) (f2 k1) = nI 1 then f3 k1 else f4 k1) = (if byO op (f1 k2) (f2 k2) = nI 1 then f3 k2 else f4 k2)
                rw [n1 ha.1 k1 k2 hkk, n2 ha.2.1 k1 k2 hkk, n3 ha.2.2.1 k1 k2 hkk, n4 ha.2.2.2 k1 k2 hkk]
theorem unitN_V {B : Nat → Int32} {n : Nat} : ∀ k, VOK (unitN B n k) (4 * k + 3)
  | 0 => unit_V (d := 1) (fun S' h => by cases h) (Nat.le_refl _)
  | k + 1 => unit_V (d := 4 * k + 5) (fun S' h => by cases h; exact jnR_V (jnR_V (unitN_V k) tmO_k) plO_k) (by omega)
theorem sumN_V {B : Nat → Int32} {n k : Nat} : VOK (sumR (unitN B n k) B n) (4 * k + 5) := jnR_V (jnR_V (unitN_V k) tmO_k) plO_k
/-- a habit's text: its steps, and whether it asks for the day -/
def habR (B : Nat → Int32) (n : Nat) : Except (Nat × Nat) (List Tok × Bool) := match sumR (unitN B n 6) B n 0 with
  | .error e => .error e
  | .ok (e, t, a) => if n ≤ skT B n e then .ok (t, a) else .error (1, skT B n e)

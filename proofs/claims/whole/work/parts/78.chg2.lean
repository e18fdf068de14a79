/-- what was, into a row -/
def pwF (m : pMI) (t0 sp : Nat) (s : Nat → Int32) (k : Nat) : pMI := fun a j => if a = t0 ∧ sp ≤ j ∧ j < sp + k then s (j - sp) else if a = 87 ∧ j = 32 then nI (sp + k) else m a j
theorem pwF_0 {m : pMI} {t0 sp : Nat} {s : Nat → Int32} (h : m 87 32 = nI sp) : m = pwF m t0 sp s 0 := by
  funext a j; unfold pwF
  rw [if_neg (by omega)]
  by_cases h1 : a = 87 ∧ j = 32
  · rw [if_pos h1, h1.1, h1.2]; exact h
  · rw [if_neg h1]
theorem pwF_s {m : pMI} {t0 sp k R I : Nat} {s : Nat → Int32} (ht : t0 ≠ 87) (h1 : R ≠ t0) (h2 : ¬ (R = 87 ∧ I = 32)) (hv : m R I = s k) : up2 (up2 (up2 (pwF m t0 sp s k) t0 (sp + k) (s k)) 87 32 (nI (sp + k + 1))) R I (s k) = pwF m t0 sp s (k + 1) := by
  funext a j
  unfold up2 pwF
  by_cases e1 : a = R ∧ j = I
  · rw [if_pos e1, if_neg (by omega), if_neg (by omega), e1.1, e1.2, hv]
  rw [if_neg e1]
  by_cases e2 : a = 87 ∧ j = 32
  · rw [if_pos e2, if_neg (by omega), if_pos e2]; rfl
  rw [if_neg e2, if_neg e2]
  by_cases e3 : a = t0 ∧ j = sp + k
  · rw [if_pos e3, if_pos (by omega), show j - sp = k by omega]
  rw [if_neg e3]
  by_cases e4 : a = t0 ∧ sp ≤ j ∧ j < sp + k
  · rw [if_pos e4, if_pos (by omega)]
  · rw [if_neg e4, if_neg (by omega)]
    rw [if_neg e2]
theorem pwF_r {m : pMI} {t0 sp k a j : Nat} {s : Nat → Int32} (h1 : a ≠ t0) (h2 : ¬ (a = 87 ∧ j = 32)) : pwF m t0 sp s k a j = m a j := by
  unfold pwF; rw [if_neg (fun q => h1 q.1), if_neg h2]
theorem pwF_32 {m : pMI} {t0 sp k : Nat} {s : Nat → Int32} (ht : t0 ≠ 87) : pwF m t0 sp s k 87 32 = nI (sp + k) := by
  unfold pwF; rw [if_neg (by omega), if_pos ⟨rfl, rfl⟩]
/-- the hotel's numbers and when guests wake -/
def srcN (m : pMI) (k : Nat) : Int32 := if k < 3 then m 91 (2 + k) else if k < 11 then m (121 + (k - 3)) 0 else if k = 11 then m 87 29 else if k = 12 then m 87 30 else m (169 + (k - 13) / 11) ((k - 13) % 11)
/-- what was, out of a row -/
def pbF (m : pMI) (t0 sp k : Nat) : pMI := fun a j => if a = 91 ∧ 2 ≤ j ∧ j < 5 ∧ j - 2 < k then m t0 (sp + (j - 2)) else if 121 ≤ a ∧ a < 129 ∧ j = 0 ∧ 3 + (a - 121) < k then m t0 (sp + (3 + (a - 121))) else if a = 87 ∧ j = 32 then nI (sp + k) else if a = 87 ∧ j = 29 ∧ 11 < k then m t0 (sp + 11) else if a = 87 ∧ j = 30 ∧ 12 < k then m t0 (sp + 12) else if 169 ≤ a ∧ a < 189 ∧ j < 11 ∧ 13 + 11 * (a - 169) + j < k then m t0 (sp + (13 + 11 * (a - 169) + j)) else m a j
theorem pbF_0 {m : pMI} {t0 sp : Nat} (h : m 87 32 = nI sp) : m = pbF m t0 sp 0 := by
  funext a j; unfold pbF
  rw [if_neg (by omega), if_neg (by omega)]
  by_cases h1 : a = 87 ∧ j = 32
  · rw [if_pos h1, h1.1, h1.2]; exact h
  · rw [if_neg h1, if_neg (by omega), if_neg (by omega), if_neg (by omega)]
/-- where the k-th number goes -/
def dsR (k : Nat) : Nat := if k < 3 then 91 else if k < 11 then 121 + (k - 3) else if k < 13 then 87 else 169 + (k - 13) / 11
def dsI (k : Nat) : Nat := if k < 3 then 2 + k else if k < 11 then 0 else if k = 11 then 29 else if k = 12 then 30 else (k - 13) % 11
theorem pbF_s {m : pMI} {t0 sp k : Nat} (hk : k < 233) : up2 (up2 (pbF m t0 sp k) 87 32 (nI (sp + k + 1))) (dsR k) (dsI k) (m t0 (sp + k)) = pbF m t0 sp (k + 1) := by
  have c1 : k < 3 → dsR k = 91 ∧ dsI k = 2 + k := fun h => ⟨if_pos h, if_pos h⟩
  have c2 : 3 ≤ k → k < 11 → dsR k = 121 + (k - 3) ∧ dsI k = 0 := fun h h2 => ⟨(if_neg (by omega)).trans (if_pos h2), (if_neg (by omega)).trans (if_pos h2)⟩
  have c3 : k = 11 → dsR k = 87 ∧ dsI k = 29 := fun h => by subst h; exact ⟨rfl, rfl⟩
  have c4 : k = 12 → dsR k = 87 ∧ dsI k = 30 := fun h => by subst h; exact ⟨rfl, rfl⟩
  have c5 : 13 ≤ k → dsR k = 169 + (k - 13) / 11 ∧ dsI k = (k - 13) % 11 := fun h => ⟨(if_neg (by omega)).trans ((if_neg (by omega)).trans (if_neg (by omega))), (if_neg (by omega)).trans ((if_neg (by omega)).trans ((if_neg (by omega)).trans (if_neg (by omega))))⟩
  generalize dsR k = R at c1 c2 c3 c4 c5 ⊢
  generalize dsI k = I at c1 c2 c3 c4 c5 ⊢
  have cs : k < 3 ∨ (3 ≤ k ∧ k < 11) ∨ k = 11 ∨ k = 12 ∨ 13 ≤ k := by omega
  funext a j
  unfold up2 pbF
  rcases cs with h | ⟨h, h'⟩ | h | h | h
  · obtain ⟨rfl, rfl⟩ := c1 h
    by_cases e1 : a = 91 ∧ j = 2 + k
    · rw [if_pos e1, if_pos (by omega), show j - 2 = k by omega]
    rw [if_neg e1]
    by_cases e2 : a = 87 ∧ j = 32
    · rw [if_pos e2, if_neg (by omega), if_neg (by omega), if_pos e2]; rfl
    rw [if_neg e2]
    by_cases q1 : a = 91 ∧ 2 ≤ j ∧ j < 5 ∧ j - 2 < k
    · rw [if_pos q1, if_pos (by omega)]
    rw [if_neg q1, if_neg (show ¬ (a = 91 ∧ 2 ≤ j ∧ j < 5 ∧ j - 2 < k + 1) by omega), if_neg (by omega), if_neg (show ¬ (121 ≤ a ∧ a < 129 ∧ j = 0 ∧ 3 + (a - 121) < k + 1) by omega), if_neg e2, if_neg e2, if_neg (by omega), if_neg (show ¬ (a = 87 ∧ j = 29 ∧ 11 < k + 1) by omega), if_neg (by omega), if_neg (show ¬ (a = 87 ∧ j = 30 ∧ 12 < k + 1) by omega), if_neg (by omega), if_neg (show ¬ (169 ≤ a ∧ a < 189 ∧ j < 11 ∧ 13 + 11 * (a - 169) + j < k + 1) by omega)]
  · obtain ⟨rfl, rfl⟩ := c2 h h'
    by_cases e1 : a = 121 + (k - 3) ∧ j = 0
    · rw [if_pos e1, if_neg (by omega), if_pos (by omega), show 3 + (a - 121) = k by omega]
    rw [if_neg e1]
    by_cases e2 : a = 87 ∧ j = 32
    · rw [if_pos e2, if_neg (by omega), if_neg (by omega), if_pos e2]; rfl
    rw [if_neg e2]
    by_cases q1 : a = 91 ∧ 2 ≤ j ∧ j < 5 ∧ j - 2 < k
    · rw [if_pos q1, if_pos (by omega)]
    rw [if_neg q1, if_neg (show ¬ (a = 91 ∧ 2 ≤ j ∧ j < 5 ∧ j - 2 < k + 1) by omega)]
    by_cases q2 : 121 ≤ a ∧ a < 129 ∧ j = 0 ∧ 3 + (a - 121) < k
    · rw [if_pos q2, if_pos (by omega)]
    rw [if_neg q2, if_neg (show ¬ (121 ≤ a ∧ a < 129 ∧ j = 0 ∧ 3 + (a - 121) < k + 1) by omega), if_neg e2, if_neg e2, if_neg (by omega), if_neg (show ¬ (a = 87 ∧ j = 29 ∧ 11 < k + 1) by omega), if_neg (by omega), if_neg (show ¬ (a = 87 ∧ j = 30 ∧ 12 < k + 1) by omega), if_neg (by omega), if_neg (show ¬ (169 ≤ a ∧ a < 189 ∧ j < 11 ∧ 13 + 11 * (a - 169) + j < k + 1) by omega)]
  · obtain ⟨rfl, rfl⟩ := c3 h
    subst h
    by_cases e1 : a = 87 ∧ j = 29
    · rw [if_pos e1, if_neg (by omega), if_neg (by omega), if_neg (by omega), if_pos (by omega)]
    rw [if_neg e1]
    by_cases e2 : a = 87 ∧ j = 32
    · rw [if_pos e2, if_neg (by omega), if_neg (by omega), if_pos e2]
    rw [if_neg e2]
    by_cases q1 : a = 91 ∧ 2 ≤ j ∧ j < 5 ∧ j - 2 < 11
    · rw [if_pos q1, if_pos (by omega)]
    rw [if_neg q1, if_neg (show ¬ (a = 91 ∧ 2 ≤ j ∧ j < 5 ∧ j - 2 < 11 + 1) by omega)]
    by_cases q2 : 121 ≤ a ∧ a < 129 ∧ j = 0 ∧ 3 + (a - 121) < 11
    · rw [if_pos q2, if_pos (by omega)]
    rw [if_neg q2, if_neg (show ¬ (121 ≤ a ∧ a < 129 ∧ j = 0 ∧ 3 + (a - 121) < 11 + 1) by omega), if_neg e2, if_neg e2, if_neg (by omega), if_neg (show ¬ (a = 87 ∧ j = 29 ∧ 11 < 11 + 1) by omega), if_neg (by omega), if_neg (show ¬ (a = 87 ∧ j = 30 ∧ 12 < 11 + 1) by omega), if_neg (by omega), if_neg (show ¬ (169 ≤ a ∧ a < 189 ∧ j < 11 ∧ 13 + 11 * (a - 169) + j < 11 + 1) by omega)]
  · obtain ⟨rfl, rfl⟩ := c4 h
    subst h
    by_cases e1 : a = 87 ∧ j = 30
    · rw [if_pos e1, if_neg (by omega), if_neg (by omega), if_neg (by omega), if_neg (by omega), if_pos (by omega)]
    rw [if_neg e1]
    by_cases e2 : a = 87 ∧ j = 32
    · rw [if_pos e2, if_neg (by omega), if_neg (by omega), if_pos e2]
    rw [if_neg e2]
    by_cases q1 : a = 91 ∧ 2 ≤ j ∧ j < 5 ∧ j - 2 < 12
    · rw [if_pos q1, if_pos (by omega)]
    rw [if_neg q1, if_neg (show ¬ (a = 91 ∧ 2 ≤ j ∧ j < 5 ∧ j - 2 < 12 + 1) by omega)]
    by_cases q2 : 121 ≤ a ∧ a < 129 ∧ j = 0 ∧ 3 + (a - 121) < 12
    · rw [if_pos q2, if_pos (by omega)]
    rw [if_neg q2, if_neg (show ¬ (121 ≤ a ∧ a < 129 ∧ j = 0 ∧ 3 + (a - 121) < 12 + 1) by omega), if_neg e2, if_neg e2]
    by_cases q3 : a = 87 ∧ j = 29 ∧ 11 < 12
    · rw [if_pos q3, if_pos (by omega)]
    rw [if_neg q3, if_neg (show ¬ (a = 87 ∧ j = 29 ∧ 11 < 12 + 1) by omega), if_neg (by omega), if_neg (show ¬ (a = 87 ∧ j = 30 ∧ 12 < 12 + 1) by omega), if_neg (by omega), if_neg (show ¬ (169 ≤ a ∧ a < 189 ∧ j < 11 ∧ 13 + 11 * (a - 169) + j < 12 + 1) by omega)]
  · obtain ⟨rfl, rfl⟩ := c5 h
    by_cases e1 : a = 169 + (k - 13) / 11 ∧ j = (k - 13) % 11
    · rw [if_pos e1, if_neg (by omega), if_neg (by omega), if_neg (by omega), if_neg (by omega), if_neg (by omega), if_pos (by omega), show 13 + 11 * (a - 169) + j = k by omega]
    rw [if_neg e1]
    by_cases e2 : a = 87 ∧ j = 32
    · rw [if_pos e2, if_neg (by omega), if_neg (by omega), if_pos e2]; rfl
    rw [if_neg e2]
    by_cases q1 : a = 91 ∧ 2 ≤ j ∧ j < 5 ∧ j - 2 < k
    · rw [if_pos q1, if_pos (by omega)]
    rw [if_neg q1, if_neg (show ¬ (a = 91 ∧ 2 ≤ j ∧ j < 5 ∧ j - 2 < k + 1) by omega)]
    by_cases q2 : 121 ≤ a ∧ a < 129 ∧ j = 0 ∧ 3 + (a - 121) < k
    · rw [if_pos q2, if_pos (by omega)]
    rw [if_neg q2, if_neg (show ¬ (121 ≤ a ∧ a < 129 ∧ j = 0 ∧ 3 + (a - 121) < k + 1) by omega), if_neg e2, if_neg e2]
    by_cases q3 : a = 87 ∧ j = 29 ∧ 11 < k
    · rw [if_pos q3, if_pos (by omega)]
    rw [if_neg q3, if_neg (show ¬ (a = 87 ∧ j = 29 ∧ 11 < k + 1) by omega)]
    by_cases q4 : a = 87 ∧ j = 30 ∧ 12 < k
    · rw [if_pos q4, if_pos (by omega)]
    rw [if_neg q4, if_neg (show ¬ (a = 87 ∧ j = 30 ∧ 12 < k + 1) by omega)]
    by_cases q5 : 169 ≤ a ∧ a < 189 ∧ j < 11 ∧ 13 + 11 * (a - 169) + j < k
    · rw [if_pos q5, if_pos (by omega)]
    · rw [if_neg q5, if_neg (show ¬ (169 ≤ a ∧ a < 189 ∧ j < 11 ∧ 13 + 11 * (a - 169) + j < k + 1) by omega)]

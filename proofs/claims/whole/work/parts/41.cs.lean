/-! ===== a Course of the component at t ===== -/
/-- the number that has these bits -/
def mkN (p : Nat → Bool) : Nat → Int32
  | 0 => 0
  | n + 1 => if p n then mkN p n ||| (nI 1 <<< (nI n &&& 31)) else mkN p n
theorem bt_mkN (p : Nat → Bool) {i : Nat} (hi : i < 32) : ∀ n, n ≤ 32 → bt (mkN p n) i = (decide (i < n) && p i)
  | 0, _ => by unfold mkN; rw [b_0]; simp
  | n + 1, hn => by
    unfold mkN
    by_cases e : i = n
    · subst e
      by_cases h : p i = true
      · rw [if_pos h, bit_set hi hi]; simp [h]
      · rw [if_neg h, bt_mkN p hi i (by omega)]; simp [h]
    · have h2 : decide (i < n + 1) = decide (i < n) := by simp; omega
      rw [h2, ← bt_mkN p hi n (by omega)]
      split
      · rw [bit_set (by omega) hi]; simp [e]
      · rfl
def mkB (p : Nat → Bool) : Int32 := mkN p 32
theorem bt_mkB (p : Nat → Bool) {i : Nat} (hi : i < 32) : bt (mkB p) i = p i := by
  unfold mkB; rw [bt_mkN p hi 32 (Nat.le_refl _)]; simp [hi]
theorem mkB_eq {p : Nat → Bool} {x : Int32} (h : ∀ i, i < 32 → bt x i = p i) : x = mkB p := b_ext (fun i hi => by rw [h i hi, bt_mkB p hi])
theorem mkB_or {p : Nat → Bool} {k : Nat} (hk : k < 32) : mkB p ||| (nI 1 <<< (nI k &&& 31)) = mkB (ud p k true) :=
  mkB_eq (fun i hi => by rw [bit_set hk hi, bt_mkB p hi]; unfold ud; by_cases e : i = k <;> simp [e])
theorem mkB_clr {p : Nat → Bool} {k : Nat} (hk : k < 32) : mkB p &&& ((nI 1 <<< (nI k &&& 31)) ^^^ -1) = mkB (ud p k false) :=
  mkB_eq (fun i hi => by rw [bit_clr hk hi, bt_mkB p hi]; unfold ud; by_cases e : i = k <;> simp [e])
theorem mkB_ask {p : Nat → Bool} {k : Nat} (hk : k < 31) : (mkB p >>> (nI k &&& 31)) &&& nI 1 = bI (p k) := by rw [bit_ask hk, bt_mkB p (by omega)]
theorem mkB_ne {p : Nat → Bool} : ¬ mkB p = 0 ↔ ∃ i, i < 32 ∧ p i = true := by
  refine ⟨fun h => ?_, fun ⟨i, hi, hp⟩ h => ?_⟩
  · apply Decidable.byContradiction
    intro hn
    apply h
    refine b_ext (fun i hi => ?_)
    rw [bt_mkB p hi, b_0]
    cases hp : p i with
    | false => rfl
    | true => exact absurd ⟨i, hi, hp⟩ hn
  · have := bt_mkB p hi
    rw [h, b_0, hp] at this
    cases this
/-- numbers; facts; chairs' facts; one or none (3 whose chair, 5 waits from); towels; the queue; free chairs; busy halves -/
abbrev CS : Type := pMI × (Nat → Nat → Int32) × (Nat → Nat → Int32) × (Nat → Nat → Option Nat) × (Nat → Nat → Int32) × List Nat × (Nat → Bool) × (Nat → Bool)
def sM (i j : Nat) (v : Int32) (s : CS) : CS := (up2 s.1 i j v, s.2)
def sFa (a b : Nat) (v : Int32) (s : CS) : CS := (s.1, up2 s.2.1 a b v, s.2.2)
def sCf (a b : Nat) (v : Int32) (s : CS) : CS := (s.1, s.2.1, up2 s.2.2.1 a b v, s.2.2.2)
def sO (a b : Nat) (v : Option Nat) (s : CS) : CS := (s.1, s.2.1, s.2.2.1, up2 s.2.2.2.1 a b v, s.2.2.2.2)
def sTw (a b : Nat) (v : Int32) (s : CS) : CS := (s.1, s.2.1, s.2.2.1, s.2.2.2.1, up2 s.2.2.2.2.1 a b v, s.2.2.2.2.2)
def sFr (f : Nat → Bool) (s : CS) : CS := (s.1, s.2.1, s.2.2.1, s.2.2.2.1, s.2.2.2.2.1, s.2.2.2.2.2.1, f, s.2.2.2.2.2.2.2)
def sBz (f : Nat → Bool) (s : CS) : CS := (s.1, s.2.1, s.2.2.1, s.2.2.2.1, s.2.2.2.2.1, s.2.2.2.2.2.1, s.2.2.2.2.2.2.1, f)
def wC (t nG : Nat) (s : CS) : pMI := fun i j =>
  if i = t then (if j = 11 then nI s.2.2.2.2.2.1.length else if j = 12 then mkB s.2.2.2.2.2.2.1 else if j = 13 then mkB s.2.2.2.2.2.2.2 else s.1 i j)
  else if i = t + 1 then s.2.1 (j / 8) (j % 8)
  else if i = t + 2 then s.2.2.1 (j / 3) (j % 3)
  else if (i = t + 3 ∨ i = t + 5) ∧ j < nG then oI (s.2.2.2.1 (i - t) j)
  else if i = t + 7 ∧ j < s.2.2.2.2.2.1.length then nI (s.2.2.2.2.2.1.getD j 0)
  else if i = t + 8 then s.2.2.2.2.1 (j / 24) (j % 24)
  else s.1 i j
section CSL
variable {t nG : Nat} {s : CS}
theorem cr_out {i : Nat} (h : i < t ∨ t + 9 ≤ i) : wC t nG s i = s.1 i := by
  funext j; unfold wC
  rw [if_neg (by omega), if_neg (by omega), if_neg (by omega), if_neg (by omega), if_neg (by omega), if_neg (by omega)]
theorem cr_f {j : Nat} (h : j ≠ 11 ∧ j ≠ 12 ∧ j ≠ 13) : wC t nG s t j = s.1 t j := by unfold wC; simp [h.1, h.2.1, h.2.2]
theorem cr_11 : wC t nG s t 11 = nI s.2.2.2.2.2.1.length := by unfold wC; simp
theorem cr_12 : wC t nG s t 12 = mkB s.2.2.2.2.2.2.1 := by unfold wC; simp
theorem cr_13 : wC t nG s t 13 = mkB s.2.2.2.2.2.2.2 := by unfold wC; simp
theorem cr_1 {j : Nat} : wC t nG s (t + 1) j = s.2.1 (j / 8) (j % 8) := by unfold wC; rw [if_neg (by omega), if_pos rfl]
theorem cr_2 {j : Nat} : wC t nG s (t + 2) j = s.2.2.1 (j / 3) (j % 3) := by unfold wC; rw [if_neg (by omega), if_neg (by omega), if_pos rfl]
theorem cr_8 {j : Nat} : wC t nG s (t + 8) j = s.2.2.2.2.1 (j / 24) (j % 24) := by unfold wC; rw [if_neg (by omega), if_neg (by omega), if_neg (by omega), if_neg (by omega), if_neg (by omega), if_pos rfl]
theorem cr_fa {a b : Nat} (h : b < 8) : wC t nG s (t + 1) (a * 8 + b) = s.2.1 a b := by
  unfold wC; rw [if_neg (by omega), if_pos rfl, show (a * 8 + b) / 8 = a by omega, show (a * 8 + b) % 8 = b by omega]
theorem cr_cf {a b : Nat} (h : b < 3) : wC t nG s (t + 2) (a * 3 + b) = s.2.2.1 a b := by
  unfold wC; rw [if_neg (by omega), if_neg (by omega), if_pos rfl, show (a * 3 + b) / 3 = a by omega, show (a * 3 + b) % 3 = b by omega]
theorem cr_o3 {j : Nat} (h : j < nG) : wC t nG s (t + 3) j = oI (s.2.2.2.1 3 j) := by
  unfold wC; rw [if_neg (by omega), if_neg (by omega), if_neg (by omega), if_pos ⟨Or.inl rfl, h⟩, show t + 3 - t = 3 by omega]
theorem cr_o5 {j : Nat} (h : j < nG) : wC t nG s (t + 5) j = oI (s.2.2.2.1 5 j) := by
  unfold wC; rw [if_neg (by omega), if_neg (by omega), if_neg (by omega), if_pos ⟨Or.inr rfl, h⟩, show t + 5 - t = 5 by omega]
theorem cr_4 {j : Nat} : wC t nG s (t + 4) j = s.1 (t + 4) j := by
  unfold wC; rw [if_neg (by omega), if_neg (by omega), if_neg (by omega), if_neg (by omega), if_neg (by omega), if_neg (by omega)]
theorem cr_6 {j : Nat} : wC t nG s (t + 6) j = s.1 (t + 6) j := by
  unfold wC; rw [if_neg (by omega), if_neg (by omega), if_neg (by omega), if_neg (by omega), if_neg (by omega), if_neg (by omega)]
theorem cr_9 {j : Nat} : wC t nG s (t + 9) j = s.1 (t + 9) j := by
  unfold wC; rw [if_neg (by omega), if_neg (by omega), if_neg (by omega), if_neg (by omega), if_neg (by omega), if_neg (by omega)]
theorem cr_7 {j : Nat} (h : j < s.2.2.2.2.2.1.length) : wC t nG s (t + 7) j = nI (s.2.2.2.2.2.1.getD j 0) := by
  unfold wC; rw [if_neg (by omega), if_neg (by omega), if_neg (by omega), if_neg (by omega), if_pos ⟨rfl, h⟩]
theorem cr_tw {a b : Nat} (h : b < 24) : wC t nG s (t + 8) (a * 24 + b) = s.2.2.2.2.1 a b := by
  unfold wC; rw [if_neg (by omega), if_neg (by omega), if_neg (by omega), if_neg (by omega), if_neg (by omega), if_pos rfl, show (a * 24 + b) / 24 = a by omega, show (a * 24 + b) % 24 = b by omega]
theorem cw_m {i j : Nat} {v : Int32} (h : i < t ∨ t + 9 ≤ i ∨ i = t + 4 ∨ i = t + 6 ∨ (i = t ∧ j ≠ 11 ∧ j ≠ 12 ∧ j ≠ 13)) : up2 (wC t nG s) i j v = wC t nG (sM i j v s) := by
  funext a b
  by_cases e : a = i ∧ b = j
  · obtain ⟨rfl, rfl⟩ := e
    rw [up2_s]
    have hz : (sM a b v s).1 a b = v := up2_s
    unfold wC
    by_cases ha : a = t
    · have hb : b ≠ 11 ∧ b ≠ 12 ∧ b ≠ 13 := by omega
      rw [if_pos ha, if_neg hb.1, if_neg hb.2.1, if_neg hb.2.2, hz]
    · rw [if_neg ha, if_neg (by omega), if_neg (by omega), if_neg (by omega), if_neg (by omega), if_neg (by omega), hz]
  · have hz : (sM i j v s).1 a b = s.1 a b := if_neg e
    unfold up2
    rw [if_neg e]
    unfold wC
    rw [hz]
    rfl
theorem cw_fa {a b : Nat} {v : Int32} (h : b < 8) : up2 (wC t nG s) (t + 1) (a * 8 + b) v = wC t nG (sFa a b v s) := by
  funext i j
  by_cases ei : i = t + 1
  · subst ei
    by_cases ej : j = a * 8 + b
    · subst ej; rw [up2_s, cr_fa h]; exact up2_s.symm
    · rw [up2_n ej, cr_1, cr_1]
      show s.2.1 (j / 8) (j % 8) = up2 s.2.1 a b v (j / 8) (j % 8)
      unfold up2
      rw [if_neg (by omega)]
  · rw [up2_row ei]
    unfold wC sFa
    rw [if_neg ei, if_neg ei]
theorem cw_cf {a b : Nat} {v : Int32} (h : b < 3) : up2 (wC t nG s) (t + 2) (a * 3 + b) v = wC t nG (sCf a b v s) := by
  funext i j
  by_cases ei : i = t + 2
  · subst ei
    by_cases ej : j = a * 3 + b
    · subst ej; rw [up2_s, cr_cf h]; exact up2_s.symm
    · rw [up2_n ej, cr_2, cr_2]
      show s.2.2.1 (j / 3) (j % 3) = up2 s.2.2.1 a b v (j / 3) (j % 3)
      unfold up2
      rw [if_neg (by omega)]
  · rw [up2_row ei]
    unfold wC sCf
    rw [if_neg ei, if_neg ei]
theorem cw_tw {a b : Nat} {v : Int32} (h : b < 24) : up2 (wC t nG s) (t + 8) (a * 24 + b) v = wC t nG (sTw a b v s) := by
  funext i j
  by_cases ei : i = t + 8
  · subst ei
    by_cases ej : j = a * 24 + b
    · subst ej; rw [up2_s, cr_tw h]; exact up2_s.symm
    · rw [up2_n ej, cr_8, cr_8]
      show s.2.2.2.2.1 (j / 24) (j % 24) = up2 s.2.2.2.2.1 a b v (j / 24) (j % 24)
      unfold up2
      rw [if_neg (by omega)]
  · rw [up2_row ei]
    unfold wC sTw
    rw [if_neg ei, if_neg ei]
theorem cw_o {k j : Nat} {o : Option Nat} {v : Int32} (hk : k = 3 ∨ k = 5) (hj : j < nG) (hv : v = oI o) : up2 (wC t nG s) (t + k) j v = wC t nG (sO k j o s) := by
  funext a b
  by_cases e : a = t + k ∧ b = j
  · obtain ⟨rfl, rfl⟩ := e
    rw [up2_s]
    rcases hk with rfl | rfl
    · rw [cr_o3 hj, hv]; exact congrArg oI up2_s.symm
    · rw [cr_o5 hj, hv]; exact congrArg oI up2_s.symm
  · have hz : up2 (wC t nG s) (t + k) j v a b = wC t nG s a b := by unfold up2; rw [if_neg e]
    rw [hz]
    unfold wC
    by_cases h2 : (a = t + 3 ∨ a = t + 5) ∧ b < nG
    · rw [if_pos h2, if_pos h2]
      have : (sO k j o s).2.2.2.1 (a - t) b = s.2.2.2.1 (a - t) b := by
        show up2 s.2.2.2.1 k j o (a - t) b = _
        unfold up2
        rw [if_neg (by omega)]
      rw [this]
      rfl
    · rw [if_neg h2, if_neg h2]
      rfl
theorem cw_on {k j : Nat} (hk : k = 3 ∨ k = 5) (hj : j < nG) : up2 (wC t nG s) (t + k) j (-1) = wC t nG (sO k j none s) := cw_o hk hj rfl
theorem cw_os {k j q : Nat} (hk : k = 3 ∨ k = 5) (hj : j < nG) : up2 (wC t nG s) (t + k) j (nI q) = wC t nG (sO k j (some q) s) := cw_o hk hj rfl
theorem cw_fr {f : Nat → Bool} {v : Int32} (hv : v = mkB f) : up2 (wC t nG s) t 12 v = wC t nG (sFr f s) := by
  funext a b
  by_cases e : a = t ∧ b = 12
  · obtain ⟨rfl, rfl⟩ := e; rw [up2_s, cr_12]; exact hv
  · unfold up2
    rw [if_neg e]
    unfold wC
    by_cases ha : a = t
    · rw [if_pos ha, if_pos ha]
      have hb : b ≠ 12 := fun z => e ⟨ha, z⟩
      rw [if_neg hb, if_neg hb]
      rfl
    · rw [if_neg ha, if_neg ha]; rfl
theorem cw_bz {f : Nat → Bool} {v : Int32} (hv : v = mkB f) : up2 (wC t nG s) t 13 v = wC t nG (sBz f s) := by
  funext a b
  by_cases e : a = t ∧ b = 13
  · obtain ⟨rfl, rfl⟩ := e; rw [up2_s, cr_13]; exact hv
  · unfold up2
    rw [if_neg e]
    unfold wC
    by_cases ha : a = t
    · rw [if_pos ha, if_pos ha]
      have hb : b ≠ 13 := fun z => e ⟨ha, z⟩
      rw [if_neg hb, if_neg hb]
      rfl
    · rw [if_neg ha, if_neg ha]; rfl
end CSL
theorem sck_0 {g : pGG} {t : Nat} (h : ShC g t) : g.2.1 t = (2, 0) := h.1
theorem sck_1 {g : pGG} {t : Nat} (h : ShC g t) : g.2.1 (t + 1) = (20, 64) := h.2.1
theorem sck_2 {g : pGG} {t : Nat} (h : ShC g t) : g.2.1 (t + 2) = (20, 24) := h.2.2.1
theorem sck_3 {g : pGG} {t : Nat} (h : ShC g t) : g.2.1 (t + 3) = (20, 8) := h.2.2.2.1
theorem sck_4 {g : pGG} {t : Nat} (h : ShC g t) : g.2.1 (t + 4) = (20, 8) := h.2.2.2.2.1
theorem sck_5 {g : pGG} {t : Nat} (h : ShC g t) : g.2.1 (t + 5) = (20, 8) := h.2.2.2.2.2.1
theorem sck_6 {g : pGG} {t : Nat} (h : ShC g t) : g.2.1 (t + 6) = (20, 8) := h.2.2.2.2.2.2.1
theorem sck_7 {g : pGG} {t : Nat} (h : ShC g t) : g.2.1 (t + 7) = (20, 8) := h.2.2.2.2.2.2.2.1
theorem sck_8 {g : pGG} {t : Nat} (h : ShC g t) : g.2.1 (t + 8) = (20, if t = 57 then 192 else 0) := h.2.2.2.2.2.2.2.2.1
theorem sck_9 {g : pGG} {t : Nat} (h : ShC g t) : g.2.1 (t + 9) = (20, if t = 57 then 24 else 0) := h.2.2.2.2.2.2.2.2.2.1
theorem scr_0 {g : pGG} {t : Nat} (h : ShC g t) : g.2.2 t 0 = some 3 := h.2.2.2.2.2.2.2.2.2.2.1
theorem scr_1 {g : pGG} {t : Nat} (h : ShC g t) : g.2.2 t 1 = some (t + 1) := h.2.2.2.2.2.2.2.2.2.2.2.1
theorem scr_2 {g : pGG} {t : Nat} (h : ShC g t) : g.2.2 t 2 = some (t + 2) := h.2.2.2.2.2.2.2.2.2.2.2.2.1
theorem scr_3 {g : pGG} {t : Nat} (h : ShC g t) : g.2.2 t 3 = some (t + 8) := h.2.2.2.2.2.2.2.2.2.2.2.2.2.1
theorem scr_4 {g : pGG} {t : Nat} (h : ShC g t) : g.2.2 t 4 = some (t + 9) := h.2.2.2.2.2.2.2.2.2.2.2.2.2.2.1
theorem scr_5 {g : pGG} {t : Nat} (h : ShC g t) : g.2.2 t 5 = some (t + 3) := h.2.2.2.2.2.2.2.2.2.2.2.2.2.2.2.1
theorem scr_6 {g : pGG} {t : Nat} (h : ShC g t) : g.2.2 t 6 = some (t + 4) := h.2.2.2.2.2.2.2.2.2.2.2.2.2.2.2.2.1
theorem scr_7 {g : pGG} {t : Nat} (h : ShC g t) : g.2.2 t 7 = some (t + 5) := h.2.2.2.2.2.2.2.2.2.2.2.2.2.2.2.2.2.1
theorem scr_8 {g : pGG} {t : Nat} (h : ShC g t) : g.2.2 t 8 = some (t + 6) := h.2.2.2.2.2.2.2.2.2.2.2.2.2.2.2.2.2.2.1
theorem scr_9 {g : pGG} {t : Nat} (h : ShC g t) : g.2.2 t 9 = some (t + 7) := h.2.2.2.2.2.2.2.2.2.2.2.2.2.2.2.2.2.2.2
/-- the pool as the component holds it -/
def PoolC (mi : pMI) (nC nG : Nat) (F T : Nat → Nat) : Prop := mi 3 9 = nI nC ∧ mi 3 10 = nI nG ∧ nC ≤ 8 ∧ nG ≤ 8 ∧ ∀ g, g < nG → mi 7 g = nI (F g) ∧ mi 8 g = nI (T g) ∧ F g < 23 ∧ T g ≤ 23 ∧ F g < T g

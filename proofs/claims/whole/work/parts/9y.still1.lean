/-! ===== mornings that are still: numbers ===== -/
def oth (s n q : Nat) : Nat := q / (s * n) * s + q % s
def own (s n q : Nat) : Nat := q / s % n
theorem q_dec {s n q : Nat} : q = q / (s * n) * (s * n) + own s n q * s + q % s := by
  have h1 := Nat.div_add_mod q s
  have h2 := Nat.div_add_mod (q / s) n
  rw [Nat.div_div_eq_div_mul] at h2
  have h3 : s * (q / s) = s * (n * (q / (s * n)) + q / s % n) := by rw [h2]
  rw [Nat.mul_add, ← Nat.mul_assoc, Nat.mul_comm (s * n), Nat.mul_comm s (q / s % n)] at h3
  unfold own
  omega
theorem oth_inj {s n p q : Nat} (hs : 0 < s) (h : oth s n p = oth s n q) : p / (s * n) = q / (s * n) ∧ p % s = q % s := by
  unfold oth at h
  rw [Nat.add_comm, Nat.add_comm (q / (s * n) * s)] at h
  have h1 := congrArg (· / s) h
  have h2 := congrArg (· % s) h
  rw [Nat.add_mul_div_right _ _ hs, Nat.add_mul_div_right _ _ hs, Nat.div_eq_of_lt (Nat.mod_lt _ hs), Nat.div_eq_of_lt (Nat.mod_lt _ hs), Nat.zero_add, Nat.zero_add] at h1
  rw [Nat.add_mul_mod_self_right, Nat.add_mul_mod_self_right, Nat.mod_mod, Nat.mod_mod] at h2
  exact ⟨h1, h2⟩
theorem shf_eq {s n q h : Nat} : q - own s n q * s + h * s = q / (s * n) * (s * n) + h * s + q % s := by
  have := q_dec (s := s) (n := n) (q := q)
  omega
theorem hs_lt {s n h r : Nat} (hh : h < n) (hr : r < s) : h * s + r < s * n := by
  have h1 := Nat.mul_le_mul_right s (show h + 1 ≤ n from hh)
  rw [Nat.succ_mul, Nat.mul_comm n s] at h1
  omega
theorem mk_D {s n D h r : Nat} (hh : h < n) (hr : r < s) : (D * (s * n) + h * s + r) / (s * n) = D := by
  have hl := hs_lt hh hr
  rw [show D * (s * n) + h * s + r = (h * s + r) + D * (s * n) by omega, Nat.add_mul_div_right _ _ (by omega), Nat.div_eq_of_lt hl, Nat.zero_add]
theorem mk_s {s n D h r : Nat} : D * (s * n) + h * s + r = r + (D * n + h) * s := by
  rw [Nat.add_mul, Nat.mul_assoc, Nat.mul_comm n s]
  omega
theorem mk_r {s n D h r : Nat} (hr : r < s) : (D * (s * n) + h * s + r) % s = r := by
  rw [mk_s, Nat.add_mul_mod_self_right, Nat.mod_eq_of_lt hr]
theorem mk_o {s n D h r : Nat} (hh : h < n) (hr : r < s) : own s n (D * (s * n) + h * s + r) = h := by
  unfold own
  rw [mk_s, Nat.add_mul_div_right _ _ (by omega), Nat.div_eq_of_lt hr, Nat.zero_add, Nat.add_comm, Nat.add_mul_mod_self_right, Nat.mod_eq_of_lt hh]
theorem mk_oth {s n D h r : Nat} (hh : h < n) (hr : r < s) : oth s n (D * (s * n) + h * s + r) = D * s + r := by
  unfold oth
  rw [mk_D hh hr, mk_r hr]
theorem mk_lt {s n D h r T : Nat} (hh : h < n) (hr : r < s) (hD : D < T) : D * (s * n) + h * s + r < T * (s * n) := by
  have hl := hs_lt hh hr
  have h1 := Nat.mul_le_mul_right (s * n) (show D + 1 ≤ T from hD)
  rw [Nat.succ_mul] at h1
  omega
theorem qD_lt {s n q T : Nat} (h : q < T * (s * n)) : q / (s * n) < T := Nat.div_lt_of_lt_mul (by rw [Nat.mul_comm]; exact h)
theorem same_q {s n p q : Nat} (hs : 0 < s) (h : oth s n p = oth s n q) (ho : own s n p = own s n q) : p = q := by
  obtain ⟨h1, h2⟩ := oth_inj hs h
  rw [q_dec (s := s) (n := n) (q := p), q_dec (s := s) (n := n) (q := q), h1, h2, ho]
/-- what is kept of the mornings before q, for one guest and the others as o -/
def CEL (s n : Nat) (f : Nat → Int32) (o q : Nat) (v w : Int32) : Prop := (w = nI 0 ∧ ∀ p, p < q → oth s n p ≠ o) ∨ ∃ p0, p0 < q ∧ oth s n p0 = o ∧ v = f p0 ∧ (∀ p, p < q → oth s n p = o → f p ≤ f p0) ∧ ∀ h, h < 8 → (bt w h = true ↔ ∃ p, p < q ∧ oth s n p = o ∧ own s n p = h ∧ f p = f p0)
theorem CEL_0 {s n : Nat} {f : Nat → Int32} {o : Nat} {v : Int32} : CEL s n f o 0 v (nI 0) := Or.inl ⟨rfl, fun p hp => absurd hp (Nat.not_lt_zero _)⟩
theorem CEL_skip {s n : Nat} {f : Nat → Int32} {o q : Nat} {v w : Int32} (ho : oth s n q ≠ o) (h : CEL s n f o q v w) : CEL s n f o (q + 1) v w := by
  rcases h with ⟨h1, h2⟩ | ⟨p0, h1, h2, h3, h4, h5⟩
  · refine Or.inl ⟨h1, fun p hp => ?_⟩
    by_cases e : p = q
    · rw [e]; exact ho
    · exact h2 p (by omega)
  · refine Or.inr ⟨p0, by omega, h2, h3, fun p hp he => ?_, fun h hh => (h5 h hh).trans ⟨?_, ?_⟩⟩
    · by_cases e : p = q
      · rw [e] at he; exact absurd he ho
      · exact h4 p (by omega) he
    · rintro ⟨p, a1, a2⟩; exact ⟨p, by omega, a2⟩
    · rintro ⟨p, a1, a2, a3⟩
      by_cases e : p = q
      · rw [e] at a2; exact absurd a2 ho
      · exact ⟨p, by omega, a2, a3⟩
theorem CEL_r {s n : Nat} {f : Nat → Int32} {o q : Nat} {v w : Int32} (hw : ¬ w = 0) (h : CEL s n f o q v w) : ∃ p0, p0 < q ∧ oth s n p0 = o ∧ v = f p0 ∧ (∀ p, p < q → oth s n p = o → f p ≤ f p0) ∧ ∀ h, h < 8 → (bt w h = true ↔ ∃ p, p < q ∧ oth s n p = o ∧ own s n p = h ∧ f p = f p0) := by
  rcases h with ⟨h1, h2⟩ | h
  · exact absurd h1 hw
  · exact h
theorem CEL_l {s n : Nat} {f : Nat → Int32} {o q : Nat} {v w : Int32} (hn : 0 < n ∧ n ≤ 8) (hw : w = 0) (h : CEL s n f o q v w) : ∀ p, p < q → oth s n p ≠ o := by
  rcases h with ⟨h1, h2⟩ | ⟨p0, h1, h2, h3, h4, h5⟩
  · exact h2
  · have hl : own s n p0 < n := Nat.mod_lt _ hn.1
    have := (h5 (own s n p0) (by omega)).mpr ⟨p0, h1, h2, rfl, rfl⟩
    rw [hw, b_0] at this
    cases this
theorem CEL_new {s n : Nat} {f : Nat → Int32} {q : Nat} {v w : Int32} (hn : 0 < n ∧ n ≤ 8) (h : CEL s n f (oth s n q) q v w) (hc : w = 0 ∨ v < f q) : CEL s n f (oth s n q) (q + 1) (f q) (nI 1 <<< (nI (own s n q) &&& 31)) := by
  have hl : own s n q < n := Nat.mod_lt _ hn.1
  have key : ∀ p, p < q → oth s n p = oth s n q → f p < f q := by
    intro p hp he
    by_cases hw : w = 0
    · exact absurd he (CEL_l hn hw h p hp)
    · obtain ⟨p0, h1, h2, h3, h4, h5⟩ := CEL_r hw h
      rcases hc with q1 | q1
      · exact absurd q1 hw
      · rw [h3] at q1; exact Int32.lt_of_le_of_lt (h4 p hp he) q1
  refine Or.inr ⟨q, by omega, rfl, rfl, fun p hp he => ?_, fun h hh => ?_⟩
  · by_cases e : p = q
    · rw [e]; exact Int32.le_refl _
    · exact Int32.le_of_lt (key p (by omega) he)
  · rw [bit_one (by omega) (by omega), decide_eq_true_eq]
    constructor
    · intro e; exact ⟨q, by omega, rfl, e.symm, rfl⟩
    · rintro ⟨p, a1, a2, a3, a4⟩
      by_cases e : p = q
      · rw [← a3, e]
      · have := key p (by omega) a2
        rw [a4] at this
        exact (Int32.lt_irrefl this).elim
theorem CEL_or {s n : Nat} {f : Nat → Int32} {q : Nat} {v w : Int32} (hn : 0 < n ∧ n ≤ 8) (h : CEL s n f (oth s n q) q v w) (hw : ¬ w = 0) (hc : f q = v) : CEL s n f (oth s n q) (q + 1) v (w ||| (nI 1 <<< (nI (own s n q) &&& 31))) := by
  have hl : own s n q < n := Nat.mod_lt _ hn.1
  obtain ⟨p0, h1, h2, h3, h4, h5⟩ := CEL_r hw h
  refine Or.inr ⟨p0, by omega, h2, h3, fun p hp he => ?_, fun h hh => ?_⟩
  · by_cases e : p = q
    · rw [e, hc, h3]; exact Int32.le_refl _
    · exact h4 p (by omega) he
  · rw [bit_set (by omega) (by omega), Bool.or_eq_true, decide_eq_true_eq]
    constructor
    · rintro (e | e)
      · obtain ⟨p, a1, a2⟩ := (h5 h hh).mp e
        exact ⟨p, by omega, a2⟩
      · exact ⟨q, by omega, rfl, e.symm, by rw [hc, h3]⟩
    · rintro ⟨p, a1, a2, a3, a4⟩
      by_cases e : p = q
      · right; rw [← a3, e]
      · left; exact (h5 h hh).mpr ⟨p, by omega, a2, a3, a4⟩
theorem CEL_le {s n : Nat} {f : Nat → Int32} {q : Nat} {v w : Int32} (h : CEL s n f (oth s n q) q v w) (hw : ¬ w = 0) (h1 : ¬ v < f q) (h2 : ¬ f q = v) : CEL s n f (oth s n q) (q + 1) v w := by
  obtain ⟨p0, a1, a2, a3, a4, a5⟩ := CEL_r hw h
  refine Or.inr ⟨p0, by omega, a2, a3, fun p hp he => ?_, fun h hh => (a5 h hh).trans ⟨?_, ?_⟩⟩
  · by_cases e : p = q
    · rw [e, ← a3]; exact Int32.not_lt.mp h1
    · exact a4 p (by omega) he
  · rintro ⟨p, b1, b2⟩; exact ⟨p, by omega, b2⟩
  · rintro ⟨p, b1, b2, b3, b4⟩
    by_cases e : p = q
    · rw [e, ← a3] at b4; exact absurd b4 h2
    · exact ⟨p, by omega, b2, b3, b4⟩
theorem CEL_ask {s n T q : Nat} {f : Nat → Int32} {v w : Int32} (hs : 0 < s) (hn : 0 < n ∧ n ≤ 8) (hq : q < T * (s * n)) (h : CEL s n f (oth s n q) (T * (s * n)) v w) : bt w (own s n q) = !anB (fun h => !decide (f (q - own s n q * s + h * s) ≤ f q)) n := by
  have hl : own s n q < n := Nat.mod_lt _ hn.1
  have hr : q % s < s := Nat.mod_lt _ hs
  have hD := qD_lt hq
  have hot : oth s n q = q / (s * n) * s + q % s := rfl
  rcases h with ⟨h1, h2⟩ | ⟨p0, h1, h2, h3, h4, h5⟩
  · exact absurd rfl (h2 q hq)
  · have e1 : bt w (own s n q) = true ↔ f q = f p0 := (h5 _ (by omega)).trans ⟨fun ⟨p, a1, a2, a3, a4⟩ => by rw [← same_q hs a2 a3]; exact a4, fun a => ⟨q, hq, rfl, rfl, a⟩⟩
    have e2 : anB (fun h => !decide (f (q - own s n q * s + h * s) ≤ f q)) n = false ↔ f q = f p0 := by
      rw [anB_f]
      constructor
      · intro a
        have hl0 : own s n p0 < n := Nat.mod_lt _ hn.1
        have := a (own s n p0) hl0
        rw [Bool.not_eq_false', decide_eq_true_eq, shf_eq] at this
        obtain ⟨b1, b2⟩ := oth_inj hs h2
        rw [← b1, ← b2, ← q_dec] at this
        exact Int32.le_antisymm (h4 q hq rfl) this
      · intro a h hh
        rw [Bool.not_eq_false', decide_eq_true_eq, shf_eq, a]
        exact h4 _ (mk_lt hh hr hD) (by rw [mk_oth hh hr, hot])
    cases hb : bt w (own s n q) with
    | true => rw [e2.mpr (e1.mp hb)]; rfl
    | false =>
      cases ha : anB (fun h => !decide (f (q - own s n q * s + h * s) ≤ f q)) n with
      | true => rfl
      | false => rw [e1.mpr (e2.mp ha)] at hb; cases hb
/-! the powers -/
theorem stp_pos {nG n b : Nat} (hn : 0 < n) : 0 < stp nG n b := Nat.pow_pos hn
theorem stp_N {nG n b : Nat} (hb : b < nG) : n ^ nG = n ^ b * (stp nG n b * n) := by
  unfold stp
  rw [← Nat.pow_succ, ← Nat.pow_add, show b + (nG - 1 - b + 1) = nG by omega]
theorem pw_le {n k j : Nat} (hn : 0 < n ∧ n ≤ 8) (hk : k ≤ j) : n ^ k ≤ 8 ^ j := Nat.le_trans (Nat.pow_le_pow_left hn.2 k) (Nat.pow_le_pow_right (by omega) hk)
theorem pw_lt {n k : Nat} (hn : 0 < n ∧ n ≤ 8) (hk : k ≤ 4) : n ^ k ≤ 4096 := pw_le (j := 4) hn hk
theorem oth_lt {nG n b q : Nat} (hn : 0 < n ∧ n ≤ 8) (hG : nG ≤ 4) (hb : b < nG) (hq : q < n ^ nG) : oth (stp nG n b) n q < 512 := by
  rw [stp_N hb] at hq
  have hD := qD_lt hq
  have hs := stp_pos (nG := nG) (b := b) hn.1
  have hr : q % stp nG n b < stp nG n b := Nat.mod_lt _ hs
  have h1 := Nat.mul_le_mul_right (stp nG n b) (show q / (stp nG n b * n) + 1 ≤ n ^ b from hD)
  rw [Nat.succ_mul] at h1
  have h2 : n ^ b * stp nG n b = n ^ (nG - 1) := by unfold stp; rw [← Nat.pow_add, show b + (nG - 1 - b) = nG - 1 by omega]
  have h3 : n ^ (nG - 1) ≤ 512 := pw_le (j := 3) hn (by omega)
  unfold oth
  omega
theorem cm_own {nG n q b : Nat} : cmQ nG n q b = own (stp nG n b) n q := rfl
theorem cmq_lt {nG n q b : Nat} (hn : 0 < n) : cmQ nG n q b < n := Nat.mod_lt _ hn
theorem stp_at {nG n i : Nat} (hi : i < nG) : stp nG n (nG - 1 - i) = n ^ i := by unfold stp; rw [show nG - 1 - (nG - 1 - i) = i by omega]
theorem dv_n (k n i : Nat) : k / n ^ (i + 1) = k / n ^ i / n := by rw [Nat.pow_succ, Nat.div_div_eq_div_mul]
def DGN (R k n nG i : Nat) (m y : pMI) : Prop := (∀ b, b < nG → nG ≤ b + i → y R b = nI (cmQ nG n k b)) ∧ ∀ a, a ≠ R → y a = m a
theorem DGN_0 {R k n nG : Nat} {m : pMI} : DGN R k n nG 0 m m := ⟨fun b h1 h2 => absurd h1 (by omega), fun _ _ => rfl⟩
theorem DGN_s {R k n nG i : Nat} {m y : pMI} (hi : i < nG) (h : DGN R k n nG i m y) : DGN R k n nG (i + 1) m (up2 y R (nG - 1 - i) (nI (k / n ^ i % n))) := by
  refine ⟨fun b h1 h2 => ?_, fun a ha => by rw [up2_row ha]; exact h.2 a ha⟩
  by_cases q : b = nG - 1 - i
  · rw [q, up2_s]; unfold cmQ; rw [stp_at hi]
  · rw [up2_n q]; exact h.1 b h1 (by omega)
/-! counted and sought from the end -/
def cD (p : Nat → Bool) (N : Nat) : Nat → Nat
  | 0 => 0
  | i + 1 => cD p N i + (p (N - 1 - i)).toNat
theorem cD_N {p : Nat → Bool} {N : Nat} : ∀ i, i ≤ N → cN p N = cN p (N - i) + cD p N i
  | 0, _ => rfl
  | i + 1, h => by
    rw [cD_N i (by omega), show N - i = (N - (i + 1)) + 1 by omega, cN_s, show N - (i + 1) = N - 1 - i by omega]
    show cN p (N - 1 - i) + (p (N - 1 - i)).toNat + cD p N i = cN p (N - 1 - i) + (cD p N i + (p (N - 1 - i)).toNat)
    omega
def fD (p : Nat → Bool) (N : Nat) : Nat → Option Nat
  | 0 => none
  | i + 1 => if p (N - 1 - i) = true then some (N - 1 - i) else fD p N i
theorem fD_N {p : Nat → Bool} {N : Nat} : ∀ i, i ≤ N → fE p N = (match fE p (N - i) with | some q => some q | none => fD p N i)
  | 0, _ => by
    rw [Nat.sub_zero]
    cases fE p N <;> rfl
  | i + 1, h => by
    rw [fD_N i (by omega), show N - i = (N - (i + 1)) + 1 by omega, show N - (i + 1) = N - 1 - i by omega]
    cases hf : fE p (N - 1 - i) with
    | some q => rw [fE_ss hf]
    | none =>
      cases hp : p (N - 1 - i) with
      | true => rw [fE_st hf hp]; show some (N - 1 - i) = if p (N - 1 - i) = true then some (N - 1 - i) else fD p N i; rw [if_pos hp]
      | false => rw [fE_sf hf hp]; show fD p N i = if p (N - 1 - i) = true then some (N - 1 - i) else fD p N i; rw [if_neg (by rw [hp]; decide)]
theorem cD_e {p : Nat → Bool} {N : Nat} : cD p N N = cN p N := by
  rw [cD_N N (Nat.le_refl _), Nat.sub_self]
  show _ = 0 + _
  omega
theorem fD_e {p : Nat → Bool} {N : Nat} : fD p N N = fE p N := by
  rw [fD_N N (Nat.le_refl _), Nat.sub_self]
  rfl

section REL7
variable {t nC nG go : Nat} {m n : pMI} {F T cm rk ord : Nat → Nat} {h e : Nat} {s s0 : DS} {y y0 : CS} {ob : Int32}
/-- those who wait from a later half on make it busy -/
def BZW (nG h : Nat) (y : CS) : Prop := ∀ b, b < nG → ∀ v, y.2.2.2.1 5 b = some v → h ≤ v → y.2.2.2.2.2.2.2 v = true
def LVI (t nC nG : Nat) (m n : pMI) (F T cm rk : Nat → Nat) (h e k : Nat) (s0 : DS) (y0 : CS) (s : DS) (y : CS) : Prop :=
  HR t nC nG m n F T h e s y ∧ QR nG rk (s.2.1 196) h y.2.2.2.2.2.1 ∧ (∀ b, b < nG → (T b < h ∨ (T b = h ∧ b < k)) → s.2.1 195 b = none ∧ s.2.1 196 b = none) ∧ NYq nG cm rk h 0 s ∧ s.2.2 = s0.2.2 ∧ y.1 t 14 = y0.1 t 14 ∧ y.2.2.2.2.2.2.2 = y0.2.2.2.2.2.2.2 ∧ ktM nG cm y ∧ F29 s0 s ∧ (∀ b, b < nG → y.2.2.2.1 5 b = y0.2.2.2.1 5 b ∨ y.2.2.2.1 5 b = none)
theorem lv_o {b i a : Nat} (hi : i = 195 ∨ i = 196) : (a ≠ b → (lvD T h b s).2.1 i a = s.2.1 i a) ∧ (s.2.1 i a = none → (lvD T h b s).2.1 i a = none) ∧ (T b = h → (lvD T h b s).2.1 i b = none) := by
  have key : ∀ z : DS, (z.2.1 = up2 s.2.1 195 b none ∨ (∃ c, z.2.1 = up2 (up2 s.2.1 204 c none) 195 b none) ∨ (z.2.1 = s.2.1 ∧ s.2.1 195 b = none)) → (a ≠ b → (wfD b none z).2.1 i a = s.2.1 i a) ∧ (s.2.1 i a = none → (wfD b none z).2.1 i a = none) ∧ (wfD b none z).2.1 i b = none := fun z hz => by
    unfold wfD
    dsimp only
    rcases hz with hz | ⟨c, hz⟩ | ⟨hz, h0⟩ <;> rw [hz]
    · refine ⟨fun hab => ?_, fun h0 => ?_, ?_⟩
      · rw [up2_nn (by omega), up2_nn (by omega)]
      · unfold up2; split
        · rfl
        · split
          · rfl
          · exact h0
      · rcases hi with rfl | rfl
        · rw [up2_row (by omega), up2_s]
        · rw [up2_s]
    · refine ⟨fun hab => ?_, fun h0 => ?_, ?_⟩
      · rw [up2_nn (by omega), up2_nn (by omega), up2_nn (by omega)]
      · unfold up2; split
        · rfl
        · split
          · rfl
          · split
            · rfl
            · exact h0
      · rcases hi with rfl | rfl
        · rw [up2_row (by omega), up2_s]
        · rw [up2_s]
    · refine ⟨fun hab => ?_, fun h0 => ?_, ?_⟩
      · rw [up2_nn (by omega)]
      · unfold up2; split
        · rfl
        · exact h0
      · rcases hi with rfl | rfl
        · rw [up2_row (by omega)]; exact h0
        · rw [up2_s]
  unfold lvD
  split
  · rename_i hT
    have hk := key (frD b s) (by
      unfold frD
      cases hc : s.2.1 195 b with
      | none => exact Or.inr (Or.inr ⟨rfl, rfl⟩)
      | some c => exact Or.inr (Or.inl ⟨c, rfl⟩))
    exact ⟨hk.1, hk.2.1, fun _ => hk.2.2⟩
  · rename_i hT
    exact ⟨fun _ => rfl, fun h0 => h0, fun q => absurd q hT⟩
theorem lv_g {b : Nat} : (lvD T h b s).2.2 = s.2.2 := by
  unfold lvD
  split
  · exact frD_2 b s
  · rfl
theorem lv_1 {b : Nat} : (lvD T h b s).1 = s.1 := by
  unfold lvD
  split
  · exact frD_1 b s
  · rfl
theorem lv_c {b : Nat} : (lvS t nG F T h b y).1 t 14 = y.1 t 14 ∧ (lvS t nG F T h b y).2.2.2.2.2.2.2 = y.2.2.2.2.2.2.2 ∧ (∀ a, (lvS t nG F T h b y).2.2.2.1 5 a = y.2.2.2.1 5 a ∨ (lvS t nG F T h b y).2.2.2.1 5 a = none) ∧ (lvS t nG F T h b y).2.2.2.2.2.1 = (if T b = h ∧ y.2.2.2.1 3 b = none ∧ y.2.2.2.1 5 b ≠ none then y.2.2.2.2.2.1.filter (fun z => z != b) else y.2.2.2.2.2.1) := by
  unfold lvS
  by_cases hT : T b = h
  · rw [if_pos hT]
    cases hc : y.2.2.2.1 3 b with
    | some c =>
      dsimp only
      obtain ⟨q1, q2, q3, q4, q5, _⟩ := guC_q (t := t) (F := F) (b := b) (h := h) (c := c) (k := uN (y.1 (t + 4) b)) (x := y)
      refine ⟨by rw [q1], q5, fun a => ?_, ?_⟩
      · rw [q2]; unfold up2; split
        · exact Or.inr rfl
        · exact Or.inl rfl
      · rw [if_neg (fun q => by cases q.2.1)]; exact q3
    | none =>
      dsimp only
      cases hv : y.2.2.2.1 5 b with
      | some v =>
        dsimp only
        obtain ⟨q1, q2, q3, q4, q5, q6⟩ := ewC_q (t := t) (b := b) (h := h) (v := v) (x := uqC t nG b y)
        refine ⟨?_, ?_, fun a => ?_, ?_⟩
        · rw [q1 t (by omega)]
          show (if t = t + 7 then _ else y.1 t 14) = _
          rw [if_neg (by omega)]
        · rw [q3]; rfl
        · rw [q2]
          show up2 y.2.2.2.1 5 b none 5 a = _ ∨ _
          unfold up2; split
          · exact Or.inr rfl
          · exact Or.inl rfl
        · rw [q3, if_pos ⟨hT, rfl, by simp⟩]
          rfl
      | none =>
        dsimp only
        refine ⟨rfl, rfl, fun a => Or.inl rfl, ?_⟩
        rw [if_neg (fun q => q.2.2 rfl)]
  · rw [if_neg hT]
    refine ⟨rfl, rfl, fun a => Or.inl rfl, ?_⟩
    rw [if_neg (fun q => hT q.1)]
theorem lv_step {k : Nat} (hL : PL2 t nC nG m n F T h) (hk : k < nG) (H : LVI t nC nG m n F T cm rk h e k s0 y0 s y) : LVI t nC nG m n F T cm rk h e (k + 1) s0 y0 (lvD T h k s) (lvS t nG F T h k y) := by
  obtain ⟨a1, a2, a3, a4, a5, a6, a7, a8, a9, a10⟩ := H
  obtain ⟨c1, c2, c3, c4⟩ := lv_c (t := t) (nG := nG) (F := F) (T := T) (h := h) (y := y) (b := k)
  refine ⟨hr_lv hL hk a1, ?_, fun b hb hz => ?_, fun b hb hz => ?_, lv_g.trans a5, c1.trans a6, c2.trans a7, ktM_lv a8, fun i hi => by rw [lv_1]; exact a9 i hi, fun b hb => ?_⟩
  · rw [c4]
    have e3 : y.2.2.2.1 3 k = s.2.1 195 k := (a1.1.1 k hk).1
    have e5 : y.2.2.2.1 5 k = s.2.1 196 k := (a1.1.1 k hk).2.1
    by_cases hT : T k = h
    · have hrm := qr_rm (w' := (lvD T h k s).2.1 196) (b := k) (fun z hz => (lv_o (Or.inr rfl)).1 hz) ((lv_o (Or.inr rfl) (a := k)).2.2 hT) a2
      by_cases hz : T k = h ∧ y.2.2.2.1 3 k = none ∧ y.2.2.2.1 5 k ≠ none
      · rw [if_pos hz]; exact hrm
      · rw [if_neg hz]
        have hnq : k ∉ y.2.2.2.2.2.1 := fun hm => by
          obtain ⟨_, v, hv, _⟩ := (a2.1 k).mp hm
          have h5 := (hr_v hk hv a1.1).2
          exact hz ⟨hT, e3.trans h5, by rw [e5, hv]; simp⟩
        rw [flt_id hnq] at hrm
        exact hrm
    · rw [if_neg (fun q => hT q.1)]
      have : lvD T h k s = s := by unfold lvD; rw [if_neg hT]
      rw [this]; exact a2
  · by_cases hbk : b = k
    · subst hbk
      by_cases hT : T b = h
      · exact ⟨(lv_o (Or.inl rfl) (a := b)).2.2 hT, (lv_o (Or.inr rfl) (a := b)).2.2 hT⟩
      · obtain ⟨z1, z2⟩ := a3 b hb (by omega)
        exact ⟨(lv_o (Or.inl rfl)).2.1 z1, (lv_o (Or.inr rfl)).2.1 z2⟩
    · obtain ⟨z1, z2⟩ := a3 b hb (by omega)
      exact ⟨(lv_o (Or.inl rfl)).2.1 z1, (lv_o (Or.inr rfl)).2.1 z2⟩
  · obtain ⟨z1, z2, z3⟩ := a4 b hb hz
    exact ⟨(lv_o (Or.inl rfl)).2.1 z1, (lv_o (Or.inr rfl)).2.1 z2, by rw [lv_g]; exact z3⟩
  · rcases c3 b with q | q
    · rcases a10 b hb with q2 | q2
      · exact Or.inl (q.trans q2)
      · exact Or.inr (q.trans q2)
    · exact Or.inr q
theorem lv_loop (hL : PL2 t nC nG m n F T h) (H : LVI t nC nG m n F T cm rk h e 0 s0 y0 s y) : ∀ k, k ≤ nG → LVI t nC nG m n F T cm rk h e k s0 y0 (lpS (lvD T h) 0 k s) (lpS (lvS t nG F T h) 0 k y)
  | 0, _ => H
  | k + 1, hk => by
    rw [lpS_snoc, lpS_snoc, Nat.zero_add]
    exact lv_step hL (by omega) (lv_loop hL H k (by omega))
/-- the class's own side of the hotel's going by -/
theorem to_c {k : Nat} (hB : BZW nG h y) : ∀ k, (fun z : CS => z.1 t 14 = y.1 t 14 ∧ z.2.2.2.2.2.1 = y.2.2.2.2.2.1 ∧ BZW nG h z ∧ (∀ v, y.2.2.2.2.2.2.2 v = true → z.2.2.2.2.2.2.2 v = true)) (lpS (toS t F ob h) 0 k y)
  | 0 => ⟨rfl, rfl, hB, fun _ q => q⟩
  | k + 1 => by
    obtain ⟨i1, i2, i3, i4⟩ := to_c (k := k) hB k
    rw [lpS_snoc, Nat.zero_add]
    generalize lpS (toS t F ob h) 0 k y = x at i1 i2 i3 i4 ⊢
    unfold toS
    cases hc : x.2.2.2.1 3 k with
    | none => exact ⟨i1, i2, i3, i4⟩
    | some c =>
      dsimp only
      by_cases hz : h ≤ F k ∧ ob ≤ nI (h - uN (x.1 (t + 4) k))
      · rw [if_pos hz]
        obtain ⟨q1, q2, q3, q4, q5, _⟩ := guC_q (t := t) (F := F) (b := k) (h := h) (c := c) (k := uN (x.1 (t + 4) k)) (x := sFa k 6 (x.2.1 k 6 + nI 1) x)
        generalize guC t F k h c (uN (x.1 (t + 4) k)) (sFa k 6 (x.2.1 k 6 + nI 1) x) = gz at q1 q2 q3 q4 q5 ⊢
        refine ⟨?_, ?_, fun b hb v hv hhv => ?_, fun v hv => ?_⟩
        · show gz.1 t 14 = _; rw [q1]; exact i1
        · show gz.2.2.2.2.2.1 = _; rw [q3]; exact i2
        · show ud x.2.2.2.2.2.2.2 (F k) true v = true
          have hv2 : up2 gz.2.2.2.1 5 k (some (F k)) 5 b = some v := hv
          by_cases hbk : b = k
          · subst hbk
            rw [up2_s] at hv2
            rw [← Option.some.inj hv2, ud_s]
          · rw [up2_n hbk, q2] at hv2
            have hv3 : x.2.2.2.1 5 b = some v := by rw [← hv2]; exact (up2_row (show (5 : Nat) ≠ 3 by omega) : up2 x.2.2.2.1 3 k none 5 = _) ▸ rfl
            unfold ud
            split
            · rfl
            · exact i3 b hb v hv3 hhv
        · show ud x.2.2.2.2.2.2.2 (F k) true v = true
          unfold ud
          split
          · rfl
          · exact i4 v hv
      · rw [if_neg hz]; exact ⟨i1, i2, i3, i4⟩
end REL7

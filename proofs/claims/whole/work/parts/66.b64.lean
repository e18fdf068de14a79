/-! ===== bits of longs ===== -/
def bl (x : Int64) (i : Nat) : Bool := x.toBitVec.getLsbD i
theorem bl_or (x y : Int64) (i : Nat) : bl (x ||| y) i = (bl x i || bl y i) := by unfold bl; rw [Int64.toBitVec_or, BitVec.getLsbD_or]
theorem sl_l : ∀ n, n < 8 → (((nI (n * 5)).toInt64 &&& 63).toBitVec.smod 64).toNat = n * 5 := by decide +kernel
theorem su_l : ∀ n, n < 8 → (((nI (n * 5)).toInt64.toUInt64 &&& Int64.toUInt64 63).toBitVec % 64).toNat = n * 5 := by decide +kernel
theorem bl_shl (n : Nat) (hn : n < 8) (x : Int64) {i : Nat} (hi : i < 64) : bl (x <<< ((nI (n * 5)).toInt64 &&& 63)) i = (decide (n * 5 ≤ i) && bl x (i - n * 5)) := by
  unfold bl
  rw [Int64.toBitVec_shiftLeft]
  rw [BitVec.shiftLeft_eq', sl_l n hn, BitVec.getLsbD_shiftLeft]
  by_cases h : n * 5 ≤ i
  · simp [h, hi, show ¬ i < n * 5 by omega]
  · simp [h, hi, show i < n * 5 by omega]
theorem bl_ushr (n : Nat) (hn : n < 8) (x : Int64) (i : Nat) : bl ((x.toUInt64 >>> ((nI (n * 5)).toInt64.toUInt64 &&& Int64.toUInt64 63)).toInt64) i = bl x (n * 5 + i) := by
  unfold bl
  show (x.toUInt64 >>> ((nI (n * 5)).toInt64.toUInt64 &&& Int64.toUInt64 63)).toBitVec.getLsbD i = _
  rw [UInt64.toBitVec_shiftRight, BitVec.ushiftRight_eq', su_l n hn, BitVec.getLsbD_ushiftRight]
  rfl
theorem bl_c : ∀ c, c < 32 → ∀ i, i < 64 → bl (nI c).toInt64 i = c.testBit i := by decide +kernel
theorem bt_c : ∀ c, c < 32 → ∀ i, i < 32 → bt (nI c) i = c.testBit i := by decide +kernel
theorem tb5 : ∀ c, c < 32 → ∀ i, i < 64 → 5 ≤ i → c.testBit i = false := by decide +kernel
theorem bl_i (x : Int64) {i : Nat} (hi : i < 32) : bt x.toInt32 i = bl x i := by
  unfold bt bl
  rw [Int64.toBitVec_toInt32, BitVec.getLsbD_signExtend]
  simp [hi, show i < 64 by omega]
theorem b_31 : ∀ i, i < 32 → bt (nI 31) i = decide (i < 5) := by decide +kernel
theorem bl_0 (i : Nat) : bl 0 i = false := BitVec.getLsbD_zero
def pkL (cm : Nat → Nat) : Nat → Int64
  | 0 => 0
  | n + 1 => pkL cm n ||| ((nI (cm n)).toInt64 <<< ((nI (n * 5)).toInt64 &&& 63))
theorem bl_pk {cm : Nat → Nat} {i : Nat} (hi : i < 64) : ∀ n, n ≤ 8 → (∀ b, b < n → cm b < 24) → bl (pkL cm n) i = (decide (i / 5 < n) && (cm (i / 5)).testBit (i % 5))
  | 0, _, _ => by unfold pkL; rw [bl_0]; simp
  | n + 1, hn, hc => by
    have hcn := hc n (by omega)
    unfold pkL
    rw [bl_or, bl_pk hi n (by omega) (fun b hb => hc b (by omega)), bl_shl n (by omega) _ hi]
    by_cases h1 : i / 5 = n
    · have e1 : n * 5 ≤ i := by omega
      have e2 : i - n * 5 = i % 5 := by omega
      rw [decide_eq_true e1, e2, bl_c _ (by omega) _ (by omega), h1]
      simp
    · by_cases h2 : n * 5 ≤ i
      · have e3 : ¬ i / 5 < n := by omega
        have e4 : ¬ i / 5 < n + 1 := by omega
        rw [decide_eq_true h2, bl_c (cm n) (by omega) _ (by omega), tb5 (cm n) (by omega) (i - n * 5) (by omega) (by omega)]
        simp [e3, e4]
      · rw [decide_eq_false h2]
        rw [show decide (i / 5 < n + 1) = decide (i / 5 < n) by simp; omega]
        simp
def hfL (x : Int64) (g : Nat) : Int32 := ((x.toUInt64 >>> ((nI (g * 5)).toInt64.toUInt64 &&& Int64.toUInt64 63)).toInt64).toInt32 &&& nI 31
theorem hf_pk {cm : Nat → Nat} {n g : Nat} (hn : n ≤ 8) (hg : g < n) (hc : ∀ b, b < n → cm b < 24) : hfL (pkL cm n) g = nI (cm g) := by
  refine b_ext (fun i hi => ?_)
  have hcg := hc g hg
  unfold hfL
  rw [b_and, b_31 i hi, bl_i _ hi, bl_ushr g (by omega), bt_c _ (by omega) _ hi]
  by_cases h5 : i < 5
  · rw [bl_pk (by omega) n hn hc]
    have e1 : (g * 5 + i) / 5 = g := by omega
    have e2 : (g * 5 + i) % 5 = i := by omega
    rw [e1, e2]; simp [hg, h5]
  · rw [tb5 _ (by omega) _ (by omega) (by omega)]; simp [h5]
theorem pk_inj {a b : Nat → Nat} {n : Nat} (hn : n ≤ 8) (ha : ∀ g, g < n → a g < 24) (hb : ∀ g, g < n → b g < 24) (h : pkL a n = pkL b n) : ∀ g, g < n → a g = b g := fun g hg => by
  have h1 := hf_pk hn hg ha
  rw [h, hf_pk hn hg hb] at h1
  have := ha g hg
  have := hb g hg
  exact (nI_inj (by omega) (by omega) h1).symm
theorem pkL_eq {a b : Nat → Nat} : ∀ n, (∀ g, g < n → a g = b g) → pkL a n = pkL b n
  | 0, _ => rfl
  | n + 1, h => by unfold pkL; rw [pkL_eq n (fun g hg => h g (by omega)), h n (by omega)]

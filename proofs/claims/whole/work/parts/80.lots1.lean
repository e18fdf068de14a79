/-! ===== lots ===== -/
theorem X_ldc {Γ : pTG} {d k n : Nat} {M : pMD} {pc : Nat} {L : List (Nat × Value)} {S : List Value} {g : pGG} {mi : pMI} {ml : pML} {Q : pQ} {idx : Nat} {v : Int32} (hd : decode M.2.1 pc = .ok (.ldc idx, 2)) (hw : Cond.constant M.1.cls idx v ∈ uxW) (h : XW Γ d k n M (pc + 2) L (.int v :: S) g mi ml Q) : XW Γ d k n M pc L S g mi ml Q := by
  intro p e s m args below meth c H locs cells slots mc ms ls ad ad0 n0 R P
  obtain ⟨hc, hE, hS, hl, hRep, hoL, hoS, hr, ha⟩ := P
  exact lv_ldc hc.1 hc.2.1 hc.2.2.2.1 (hc.2.2.2.2.1 _ hw) hd (h p e s m args below meth c H locs cells slots mc ms ls ad ad0 n0 R ⟨hc, hE, hS, hl, hRep, hoL, okS_c okv_i hoS, hr, ha⟩)
theorem X_ldcw {Γ : pTG} {d k n : Nat} {M : pMD} {pc : Nat} {L : List (Nat × Value)} {S : List Value} {g : pGG} {mi : pMI} {ml : pML} {Q : pQ} {idx : Nat} {v : Int32} (hd : decode M.2.1 pc = .ok (.ldc_w idx, 3)) (hw : Cond.constant M.1.cls idx v ∈ uxW) (h : XW Γ d k n M (pc + 3) L (.int v :: S) g mi ml Q) : XW Γ d k n M pc L S g mi ml Q := by
  intro p e s m args below meth c H locs cells slots mc ms ls ad ad0 n0 R P
  obtain ⟨hc, hE, hS, hl, hRep, hoL, hoS, hr, ha⟩ := P
  exact lv_ldcw hc.1 hc.2.1 hc.2.2.2.1 (hc.2.2.2.2.1 _ hw) hd (h p e s m args below meth c H locs cells slots mc ms ls ad ad0 n0 R ⟨hc, hE, hS, hl, hRep, hoL, okS_c okv_i hoS, hr, ha⟩)
theorem lc_X2 : Cond.constant RX2 56 1103515245 ∈ uxW := uxW_of (by decide +kernel) (by decide +kernel)
theorem lc_X12 : Cond.constant RX12 387 1103515245 ∈ uxW := uxW_of (by decide +kernel) (by decide +kernel)
theorem lc_X12b : Cond.constant RX12 191 100000 ∈ uxW := uxW_of (by decide +kernel) (by decide +kernel)
def lt1 (s : Int32) : Int32 := s * 1103515245 + nI 12345
def ltA (s : Int32) : Nat := ((s >>> (nI 16 &&& 31)) &&& nI 32767).toBitVec.toNat
theorem nI_bv (v : Int32) : v = nI v.toBitVec.toNat := Int32.toBitVec_inj.mp (by
  show v.toBitVec = BitVec.ofNat 32 v.toBitVec.toNat
  exact BitVec.eq_of_toNat_eq (by rw [BitVec.toNat_ofNat]; exact (Nat.mod_eq_of_lt v.toBitVec.isLt).symm))
theorem ltA_e (s : Int32) : (s >>> (nI 16 &&& 31)) &&& nI 32767 = nI (ltA s) := nI_bv _
theorem ltA_l (s : Int32) : ltA s < 32768 := by
  unfold ltA
  rw [Int32.toBitVec_and, BitVec.toNat_and]
  exact Nat.lt_of_le_of_lt Nat.and_le_right (by decide)
theorem b_32767 : ∀ i, i < 32 → bt (nI 32767) i = decide (i < 15) := by decide +kernel
theorem ltA_u (s : Int32) : (s.toUInt32 >>> ((nI 16).toUInt32 &&& Int32.toUInt32 31)).toInt32 &&& nI 32767 = nI (ltA s) := by
  rw [← ltA_e]
  refine b_ext (fun i hi => ?_)
  rw [b_and, b_and, b_ushr 16 (by omega), b_sshr 16 (by omega) s hi, b_32767 i hi]
  by_cases h : i < 15
  · rw [if_pos (by omega)]
  · simp [h]
/-- an order with its k-th and j-th changed for one another, and the ranks -/
def swO (o : Nat → Nat) (k j : Nat) : Nat → Nat := ud (ud o j (o k)) k (o j)
def swR (o rk : Nat → Nat) (k j : Nat) : Nat → Nat := ud (ud rk (o k) j) (o j) k
theorem sw_ok {nG k j : Nat} {rk o : Nat → Nat} (hk : k < nG) (hj : j < nG) (h8 : nG ≤ 8) (h : okO2 nG rk o) : okO2 nG (swR o rk k j) (swO o k j) := by
  obtain ⟨h1, h2, h3⟩ := h
  have hi : ∀ a b, a < 8 → b < 8 → o a = o b → a = b := fun a b ha hb e => by rw [← (h2 a ha).2, e, (h2 b hb).2]
  have hO : ∀ q, swO o k j q = if q = k then o j else if q = j then o k else o q := fun q => rfl
  have hR : ∀ b, swR o rk k j b = if b = o j then k else if b = o k then j else rk b := fun b => rfl
  refine ⟨fun b hb => ?_, fun q hq => ?_, fun q hq => ?_⟩
  · rw [hR, hO]
    by_cases e1 : b = o j
    · rw [if_pos e1, if_pos rfl]; exact ⟨by omega, e1.symm⟩
    · rw [if_neg e1]
      by_cases e2 : b = o k
      · rw [if_pos e2]
        by_cases e3 : j = k
        · exact absurd (by rw [e2, e3]) e1
        · rw [if_neg e3, if_pos rfl]; exact ⟨by omega, e2.symm⟩
      · rw [if_neg e2]
        obtain ⟨r1, r2⟩ := h1 b hb
        rw [if_neg (fun q => e2 (by rw [← r2, q])), if_neg (fun q => e1 (by rw [← r2, q]))]
        exact ⟨r1, r2⟩
  · rw [hO]
    by_cases e1 : q = k
    · rw [if_pos e1, hR, if_pos rfl]; exact ⟨(h2 j (by omega)).1, e1.symm⟩
    · rw [if_neg e1]
      by_cases e2 : q = j
      · rw [if_pos e2, hR]
        have : o k ≠ o j := fun e => e1 (by rw [e2]; exact (hi k j (by omega) (by omega) e).symm)
        rw [if_neg this, if_pos rfl]; exact ⟨(h2 k (by omega)).1, e2.symm⟩
      · rw [if_neg e2, hR, if_neg (fun e => e2 (hi q j hq (by omega) e)), if_neg (fun e => e1 (hi q k hq (by omega) e))]
        exact h2 q hq
  · rw [hO]
    split
    · exact h3 j hj
    · split
      · exact h3 k hk
      · exact h3 q hq
/-- the seed, the order and the ranks behind i drawings -/
def dwS (nG i : Nat) (s : Int32 × (Nat → Nat) × (Nat → Nat)) : Int32 × (Nat → Nat) × (Nat → Nat) := (lt1 s.1, swO s.2.1 (nG - 1 - i) (ltA (lt1 s.1) % (nG - 1 - i + 1)), swR s.2.1 s.2.2 (nG - 1 - i) (ltA (lt1 s.1) % (nG - 1 - i + 1)))
def dwN (nG : Nat) (seed : Int32) (i : Nat) : Int32 × (Nat → Nat) × (Nat → Nat) := lpS (dwS nG) 0 i (seed, id, id)
theorem dw_ok {nG : Nat} (h8 : nG ≤ 8) (seed : Int32) : ∀ i, i ≤ nG - 1 → okO2 nG (dwN nG seed i).2.2 (dwN nG seed i).2.1
  | 0, _ => okO_id h8
  | i + 1, hi => by
    have ih := dw_ok h8 seed i (by omega)
    unfold dwN at ih ⊢
    rw [lpS_snoc, Nat.zero_add]
    refine sw_ok (by omega) ?_ h8 ih
    have := Nat.mod_lt (ltA (lt1 (lpS (dwS nG) 0 i (seed, id, id)).1)) (show 0 < nG - 1 - i + 1 by omega)
    omega

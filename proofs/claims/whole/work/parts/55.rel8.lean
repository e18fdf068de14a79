section REL8
variable {t nC nG go : Nat} {m n : pMI} {F T cm rk ord : Nat → Nat} {h e : Nat} {s s0 : DS} {y y0 : CS} {ob : Int32}
def BZS (go : Nat) (T cm : Nat → Nat) (nG h : Nat) (y : CS) : Prop := ∀ v, h ≤ v → v < 24 → ((∃ b, b < nG ∧ (T b = v ∨ cm b = v)) ∨ gB go v = true) → y.2.2.2.2.2.2.2 v = true
def INV (t nC nG go : Nat) (m n : pMI) (F T cm rk : Nat → Nat) (h : Nat) (s : DS) (y : CS) : Prop :=
  HR t nC nG m n F T h (16 * h) s y ∧ QR nG rk (s.2.1 196) h y.2.2.2.2.2.1 ∧ (mkB y.2.2.2.2.2.2.1 = 0 ∨ y.2.2.2.2.2.1 = []) ∧ NYq nG cm rk h 0 s ∧ LT nG T h s ∧ LSR t nG cm s y ∧ BZW nG h y ∧ BZS go T cm nG h y ∧ ktM nG cm y ∧ PLI nC nG F h s
/-- what holds when the hotel has gone by -/
def HGI (t nC nG : Nat) (m n : pMI) (F T cm rk : Nat → Nat) (h e : Nat) (s0 : DS) (y0 : CS) (s : DS) (y : CS) : Prop :=
  HR t nC nG m n F T h e s y ∧ QR nG rk (s.2.1 196) h y.2.2.2.2.2.1 ∧ LT nG T (h + 1) s ∧ NYq nG cm rk h 0 s ∧ s.2.2 = s0.2.2 ∧ y.1 t 14 = y0.1 t 14 ∧ BZW nG h y ∧ (∀ v, y0.2.2.2.2.2.2.2 v = true → y.2.2.2.2.2.2.2 v = true) ∧ ktM nG cm y ∧ F29 s0 s
theorem hg_step (hL : PL2 t nC nG m n F T h) (ho : 0 < ob) (hB : BZW nG h y0) (H : LVI t nC nG m n F T cm rk h e nG s0 y0 s y) : HGI t nC nG m n F T cm rk h e s0 y0 (hgD F h ob nC go s) (if gB go h then lpS (toS t F ob h) 0 nG y else y) := by
  obtain ⟨a1, a2, a3, a4, a5, a6, a7, a8, a9, a10⟩ := H
  have hB1 : BZW nG h y := fun b hb v hv hhv => by
    rw [a7]
    rcases a10 b hb with q | q
    · exact hB b hb v (q ▸ hv) hhv
    · rw [q] at hv; cases hv
  have hLT : LT nG T (h + 1) s := fun b hb hT => a3 b hb (by omega)
  have r1 := hr_hg (go := go) hL ho a1
  cases hg : gB go h with
  | false =>
    have e1 : hgD F h ob nC go s = s := by unfold hgD; rw [hg]; rfl
    rw [e1]
    exact ⟨a1, a2, hLT, a4, a5, a6, hB1, fun v q => by rw [if_neg (by decide), a7]; exact q, a8, a9⟩
  | true =>
    rw [hg] at r1
    rw [if_pos rfl] at r1 ⊢
    obtain ⟨c1, c2, c3, c4⟩ := to_c (t := t) (F := F) (ob := ob) (k := nG) hB1 nG
    have e1 : hgD F h ob nC go s = batD F h (offP nG h ob s nC) s := by
      unfold hgD; rw [hg, if_pos rfl, hot_bat a1.1.2.2.1 nC (Nat.le_refl _)]
    rw [e1] at r1 ⊢
    have hPn : ∀ b, offP nG h ob s nC b = true → b < nG ∧ ∃ c, s.2.1 195 b = some c := fun b hb => by
      unfold offP at hb
      simp only [Bool.and_eq_true, decide_eq_true_eq] at hb
      cases hc : s.2.1 195 b with
      | none => rw [hc] at hb; cases hb.2
      | some c => exact ⟨hb.1, c, rfl⟩
    have hPf : ∀ b, s.2.1 195 b = none → offP nG h ob s nC b = false := fun b hb => by
      cases hz : offP nG h ob s nC b with
      | false => rfl
      | true => obtain ⟨_, c, hc⟩ := hPn b hz; rw [hb] at hc; cases hc
    refine ⟨r1, ?_, fun b hb hT => ?_, fun b hb hz => ?_, a5, c1.trans a6, c3, fun v q => c4 v (by rw [a7]; exact q), ?_, fun i hi => ?_⟩
    · rw [c2]
      refine qr_set (fun z hz => ?_) a2
      rw [bat_196]
      by_cases hp : offP nG h ob s nC z = true
      · rw [if_pos hp]
        obtain ⟨hz1, c, hc⟩ := hPn z hp
        exact Or.inr ⟨(hr_k hz1 hc a1.1).1, max (F z) h, by omega, rfl⟩
      · rw [if_neg hp]; exact Or.inl rfl
    · obtain ⟨z1, z2⟩ := hLT b hb hT
      have := hPf b z1
      rw [bat_195 this, bat_196, if_neg (by rw [this]; decide)]
      exact ⟨z1, z2⟩
    · obtain ⟨z1, z2, z3⟩ := a4 b hb hz
      have := hPf b z1
      rw [bat_195 this, bat_196, if_neg (by rw [this]; decide)]
      exact ⟨z1, z2, z3⟩
    · exact lpS_inv (fun _ s => ktM nG cm s) (f := toS t F ob h) (e := nG) (fun _ _ _ h => ktM_to h) nG 0 _ (by omega) a8
    · funext j; rw [bat_1 (by omega), a9 i hi]
def y2C (t nG go : Nat) (F T : Nat → Nat) (ob : Int32) (h : Nat) (y : CS) : CS := if gB go h then lpS (toS t F ob h) 0 nG (lpS (lvS t nG F T h) 0 nG y) else lpS (lvS t nG F T h) 0 nG y
def s2D (nC nG go : Nat) (F T : Nat → Nat) (ob : Int32) (h : Nat) (s : DS) : DS := hgD F h ob nC go (lpS (lvD T h) 0 nG s)
def s3D (m : pMI) (nC nG go : Nat) (F T cm ord : Nat → Nat) (ob : Int32) (h : Nat) (s : DS) : DS := lpS (arD (fun g c => wM m F T g h c) cm T ord nC h) 0 nG (s2D nC nG go F T ob h s)
def s5D (m : pMI) (nC nG go : Nat) (F T cm rk ord : Nat → Nat) (ob : Int32) (h : Nat) (s : DS) : DS := wtD (fun g c => wM m F T g h c) rk nC nG h nG (fun _ => false) (s3D m nC nG go F T cm ord ob h s)
theorem hf_acc : hfD m nC nG F T cm rk ord ob go h s = accD m nC nG F h (s5D m nC nG go F T cm rk ord ob h s) := rfl
def oP (nG : Nat) (rk ord : Nat → Nat) : Prop := (∀ q, q < nG → ord q < nG ∧ rk (ord q) = q) ∧ (∀ b, b < nG → ord (rk b) = b)
theorem mid (hL : PL2 t nC nG m n F T h) (hO : oP nG rk ord) (ho : 0 < ob) (hh : h < 24) (HI : INV t nC nG go m n F T cm rk h s y) :
    HGI t nC nG m n F T cm rk h (16 * h) s y (s2D nC nG go F T ob h s) (y2C t nG go F T ob h y) ∧
    ARI t nC nG m n F T cm rk h (16 * h + nG) nG (s2D nC nG go F T ob h s) (y2C t nG go F T ob h y) (s3D m nC nG go F T cm ord ob h s) (lpS (arS t nC F T cm ord h) 0 nG (y2C t nG go F T ob h y)) := by
  obtain ⟨i1, i2, i3, i4, i5, i6, i7, i8, i9, i10⟩ := HI
  have A := lv_loop (s0 := s) (y0 := y) hL ⟨i1, i2, fun b hb hz => i5 b hb (by omega), i4, rfl, rfl, rfl, i9, F29_r, fun _ _ => Or.inl rfl⟩ nG (Nat.le_refl _)
  have B := hg_step (go := go) hL ho i7 A
  refine ⟨B, ?_⟩
  obtain ⟨b1, b2, b3, b4, b5, b6, b7, b8, b9, b10⟩ := B
  refine ar_loop hL (by omega) hO.1 hO.2 ⟨b1, b4, b3, ?_, rfl, rfl, b9, F29_r, fun _ _ => Or.inl rfl⟩ nG (Nat.le_refl _)
  unfold LSR
  rw [b5, b6]
  exact i6
theorem ap_mid (hL : PL2 t nC nG m n F T h) (hO : oP nG rk ord) {s3 : DS} {y3 : CS} (H : HR t nC nG m n F T h e s3 y3) (hQ : QR nG rk (s3.2.1 196) h y3.2.2.2.2.2.1) :
    HR t nC nG m n F T h e s3 (lpS (apS t nG ord h) 0 nG y3) ∧ QR nG rk (s3.2.1 196) (h + 1) (lpS (apS t nG ord h) 0 nG y3).2.2.2.2.2.1 ∧ (lpS (apS t nG ord h) 0 nG y3).1 t 14 = y3.1 t 14 ∧ (lpS (apS t nG ord h) 0 nG y3).2.2.2.2.2.2.2 = y3.2.2.2.2.2.2.2 ∧ (lpS (apS t nG ord h) 0 nG y3).2.1 = y3.2.1 ∧ (lpS (apS t nG ord h) 0 nG y3).2.2.2.1 = y3.2.2.2.1 := by
  obtain ⟨q0, q1, q2, q3, q4, q5, q6, q7⟩ := qa_loop (t := t) (y := y3) (w := s3.2.1 196) hL.2.2.2.2.1 hO.1 hO.2 (fun b hb => (H.1.1 b hb).2.1) hQ nG (Nat.le_refl _)
  refine ⟨hr_y (q7 _ (by omega)) (q7 _ (by omega)) q1 q2 q3 q5 q4 (fun i j hi => ?_) H, ⟨fun z => ⟨fun hz => ?_, fun hz => ?_⟩, q0.2⟩, by rw [q7 t (by omega)], q6, q2, q1⟩
  · rw [q7 i (by omega)]; exact H.2.2 i j hi
  · obtain ⟨h1, v, h2, h3⟩ := (q0.1 z).mp hz
    exact ⟨h1, v, h2, by omega⟩
  · obtain ⟨h1, v, h2, h3⟩ := hz
    have := rk_lt hL.2.2.2.2.1 hO.1 hO.2 h1
    exact (q0.1 z).mpr ⟨h1, v, h2, by omega⟩
theorem lps_id {σ : Type} {f : Nat → σ → σ} {x : σ} : ∀ k, (∀ i, i < k → f i x = x) → lpS f 0 k x = x
  | 0, _ => rfl
  | k + 1, hz => by rw [lpS_snoc, lps_id k (fun i hi => hz i (by omega)), Nat.zero_add]; exact hz k (by omega)
theorem inv_step (hL : PL2 t nC nG m n F T h) (hO : oP nG rk ord) (ho : 0 < ob) (hh : h < 24) (HI : INV t nC nG go m n F T cm rk h s y) : INV t nC nG go m n F T cm rk (h + 1) (hfD m nC nG F T cm rk ord ob go h s) (rnS t nC nG go F T cm ord ob h y) := by
  rw [hf_acc]
  unfold rnS
  by_cases hbz : y.2.2.2.2.2.2.2 h = true
  · rw [if_pos hbz]
    obtain ⟨B, C⟩ := mid hL hO ho hh HI
    obtain ⟨i1, i2, i3, i4, i5, i6, i7, i8, i9, i10⟩ := HI
    obtain ⟨b1, b2, b3, b4, b5, b6, b7, b8, b9, b10⟩ := B
    obtain ⟨c1, c2, c3, c4, c5, c6, c7, c8, c9⟩ := C
    show INV t nC nG go m n F T cm rk (h + 1) (accD m nC nG F h (s5D m nC nG go F T cm rk ord ob h s)) (swC t nC nG F T ord h (lpS (arS t nC F T cm ord h) 0 nG (y2C t nG go F T ob h y)))
    have hQ3 : QR nG rk ((s3D m nC nG go F T cm ord ob h s).2.1 196) h (lpS (arS t nC F T cm ord h) 0 nG (y2C t nG go F T ob h y)).2.2.2.2.2.1 := by
      rw [c5]
      refine qr_set (fun z hz => ?_) b2
      rcases c9 z hz with q | q
      · exact Or.inl q
      · exact Or.inr ⟨q.1, h, Nat.le_refl _, q.2⟩
    obtain ⟨d1, d2, d3, d4, d5, d6⟩ := ap_mid hL hO c1 hQ3
    have hlen := qr_len hL.2.2.2.2.1 d2
    have hG8 := hL.2.2.2.2.1
    have hlG : (lpS (apS t nG ord h) 0 nG (lpS (arS t nC F T cm ord h) 0 nG (y2C t nG go F T ob h y))).2.2.2.2.2.1.length ≤ nG := nodup_len nG _ (qr_nodup d2) (fun z hz => ((d2.1 z).mp hz).1)
    obtain ⟨e1, e2, e3, e4, e5, e6, e7, e8, e9, e10⟩ := sw_loop (cm := cm) (rk := rk) hL _ (s3D m nC nG go F T cm ord ob h s) (lpS (apS t nG ord h) 0 nG (lpS (arS t nC F T cm ord h) 0 nG (y2C t nG go F T ob h y))) nG (16 * h + nG) (fun _ => false) d1 d2 rfl hlG (by omega) (fun _ _ => rfl) c3
    unfold swC
    have hLT5 : LT nG T (h + 1) (s5D m nC nG go F T cm rk ord ob h s) := fun b hb hT => e4 b hb (c3 b hb hT).1 (c3 b hb hT).2
    have e1' := hr_e (e' := 16 * (h + 1)) (by omega) e1
    have h29 : F29 s (s5D m nC nG go F T cm rk ord ob h s) := F29_t b10 (F29_t c8 e9)
    have hp5 : PLI nC nG F h (s5D m nC nG go F T cm rk ord ob h s) := fun c hc j hj => by
      rw [h29 (211 + c) (by omega), h29 (220 + c) (by omega)]; exact i10 c hc j hj
    obtain ⟨f1, f2, _⟩ := acc_rel hL hLT5 hh e1'
    refine ⟨f1, by rw [f2]; exact e2, e3, fun b hb hz => ?_, fun b hb hz => ?_, ?_, fun b hb v hv hhv => ?_, fun v hv hv2 hz => ?_, fun b hb => ?_, pli_acc hL hLT5 hh e1' hp5⟩
    · rw [f2]
      obtain ⟨z1, z2, z3⟩ := c2 b hb (Or.inl (by omega))
      obtain ⟨w1, w2⟩ := e4 b hb z1 z2
      exact ⟨w1, w2, by rw [show (s5D m nC nG go F T cm rk ord ob h s).2.2 = (s3D m nC nG go F T cm ord ob h s).2.2 from e5]; exact z3⟩
    · rw [f2]; exact hLT5 b hb hz
    · unfold LSR
      rw [f2, show (s5D m nC nG go F T cm rk ord ob h s).2.2 = (s3D m nC nG go F T cm ord ob h s).2.2 from e5, e6, d3]
      exact c4
    · rw [e7, d4, c6]
      have hv5 : (s5D m nC nG go F T cm rk ord ob h s).2.1 196 b = some v := ((e1.1.1 b hb).2.1).symm.trans hv
      have hv3 : (s3D m nC nG go F T cm ord ob h s).2.1 196 b = some v := by
        rcases e10 b with q | q
        · exact q.symm.trans hv5
        · rw [show (s5D m nC nG go F T cm rk ord ob h s).2.1 196 b = none from q] at hv5; cases hv5
      rcases c9 b hb with q | q
      · exact b7 b hb v ((b1.1.1 b hb).2.1.trans (q.symm.trans hv3)) (by omega)
      · rw [q.2] at hv3; have := Option.some.inj hv3; omega
    · rw [e7, d4, c6]
      exact b8 v (i8 v (by omega) hv2 hz)
    · rw [e8, d5]; exact c7 b hb
  · rw [if_neg hbz]
    obtain ⟨i1, i2, i3, i4, i5, i6, i7, i8, i9, i10⟩ := HI
    have nT : ∀ b, b < nG → T b ≠ h := fun b hb q => hbz (i8 h (Nat.le_refl _) hh (Or.inl ⟨b, hb, Or.inl q⟩))
    have nM : ∀ b, b < nG → cm b ≠ h := fun b hb q => hbz (i8 h (Nat.le_refl _) hh (Or.inl ⟨b, hb, Or.inr q⟩))
    have nG0 : gB go h = false := by
      cases hg : gB go h with
      | false => rfl
      | true => exact absurd (i8 h (Nat.le_refl _) hh (Or.inr hg)) hbz
    have nW : ∀ b, b < nG → ∀ v, s.2.1 196 b = some v → v ≠ h := fun b hb v hv q => by
      subst q; exact hbz (i7 b hb v ((i1.1.1 b hb).2.1.trans hv) (Nat.le_refl _))
    have s1 : lpS (lvD T h) 0 nG s = s := lps_id nG (fun i hi => by unfold lvD; rw [if_neg (nT i hi)])
    have s2 : s2D nC nG go F T ob h s = s := by unfold s2D hgD; rw [s1, nG0]; rfl
    have s3 : s3D m nC nG go F T cm ord ob h s = s := by
      unfold s3D
      rw [s2]
      exact lps_id nG (fun i hi => by unfold arD; rw [if_neg (fun q => nM _ (hO.1 i hi).1 q.1)])
    have s5 : s5D m nC nG go F T cm rk ord ob h s = s := by
      unfold s5D
      rw [s3]
      rcases i3 with q | q
      · exact wt_stuck (bsD_none.mp ((fz_eq (W := fun _ => 0) hL i1).mp q)) _ _
      · cases nG with
        | zero => rfl
        | succ k =>
          unfold wtD
          rw [nw_none (fun z hz => ?_)]
          unfold elig
          cases hw : s.2.1 196 z with
          | none => rfl
          | some v =>
            have : ¬ (v < h) := fun hv => by
              have := (i2.1 z).mpr ⟨hz, v, hw, hv⟩
              rw [q] at this; cases this
            have := nW z hz v hw
            simp; omega
    rw [s5]
    have hLT5 : LT nG T (h + 1) s := fun b hb hT => i5 b hb (by have := nT b hb; omega)
    have e1' := hr_e (e' := 16 * (h + 1)) (by omega) i1
    obtain ⟨f1, f2, _⟩ := acc_rel hL hLT5 hh e1'
    refine ⟨f1, ?_, i3, fun b hb hz => ?_, fun b hb hz => ?_, ?_, fun b hb v hv hhv => i7 b hb v hv (by omega), fun v hv hv2 hz => i8 v (by omega) hv2 hz, i9, pli_acc hL hLT5 hh e1' i10⟩
    · rw [f2]
      refine ⟨fun z => ⟨fun hz => ?_, fun hz => ?_⟩, i2.2⟩
      · obtain ⟨h1, v, h2, h3⟩ := (i2.1 z).mp hz
        exact ⟨h1, v, h2, by omega⟩
      · obtain ⟨h1, v, h2, h3⟩ := hz
        exact (i2.1 z).mpr ⟨h1, v, h2, by have := nW z h1 v h2; omega⟩
    · rw [f2]; exact i4 b hb (by omega)
    · rw [f2]; exact hLT5 b hb hz
    · unfold LSR; rw [f2]; exact i6
theorem inv_pre (hL : PL2 t nC nG m n F T h) (hO : oP nG rk ord) (ho : 0 < ob) (hh : h < 24) (hT : ∀ b, b < nG → T b ≤ 23) (HI : INV t nC nG go m n F T cm rk h s y) : preH t nC nG go n F T cm ord ob h y := by
  obtain ⟨B, C⟩ := mid hL hO ho hh HI
  obtain ⟨i1, i2, i3, i4, i5, i6, i7, i8, i9, i10⟩ := HI
  obtain ⟨b1, b2, b3, b4, b5, b6, b7, b8, b9, b10⟩ := B
  obtain ⟨c1, c2, c3, c4, c5, c6, c7, c8, c9⟩ := C
  have hQ3 : QR nG rk ((s3D m nC nG go F T cm ord ob h s).2.1 196) h (lpS (arS t nC F T cm ord h) 0 nG (y2C t nG go F T ob h y)).2.2.2.2.2.1 := by
    rw [c5]
    refine qr_set (fun z hz => ?_) b2
    rcases c9 z hz with q | q
    · exact Or.inl q
    · exact Or.inr ⟨q.1, h, Nat.le_refl _, q.2⟩
  obtain ⟨d1, d2, d3, d4, d5, d6⟩ := ap_mid hL hO c1 hQ3
  refine ⟨i1.2.2, ⟨fun b hb c hc => ?_, ⟨fun z hz => ((i2.1 z).mp hz).1, qr_len hL.2.2.2.2.1 i2⟩, fun b hb v hv => ?_⟩, i9, ?_⟩
  · have hc2 : s.2.1 195 b = some c := (i1.1.1 b hb).1.symm.trans hc
    exact ⟨(i1.1.2.2.1.1 b c hb hc2).1, (hr_k hb hc2 i1.1).2.2⟩
  · exact (hr_v hb ((i1.1.1 b hb).2.1.symm.trans hv) i1.1).1
  · refine ⟨qr_len hL.2.2.2.2.1 hQ3, fun b hb v hv => ?_, fun z hz => ?_, qr_nodup d2⟩
    · have := (hr_v hb ((c1.1.1 b hb).2.1.symm.trans hv) c1.1).1
      have := hT b hb
      omega
    · obtain ⟨h1, v, h2, h3⟩ := (d2.1 z).mp hz
      exact ⟨h1, v, (d1.1.1 z h1).2.1.trans h2, by omega⟩
end REL8

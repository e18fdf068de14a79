section REL9
variable {t nC nG go l8 l9 : Nat} {m mi : pMI} {F T cm rk ord : Nat → Nat} {ob : Int32}
theorem lp_fa2 {b : Nat} : ∀ (n k : Nat) (x : CS) (a j : Nat), (lpS (fun j s => sFa b j (nI 0) s) k n x).2.1 a j = if a = b ∧ k ≤ j ∧ j < k + n then nI 0 else x.2.1 a j
  | 0, k, x, a, j => by rw [if_neg (by omega)]; rfl
  | n + 1, k, x, a, j => by
    show (lpS (fun j s => sFa b j (nI 0) s) (k + 1) n (sFa b k (nI 0) x)).2.1 a j = _
    rw [lp_fa2 n (k + 1) (sFa b k (nI 0) x) a j]
    show (if _ then _ else up2 x.2.1 b k (nI 0) a j) = _
    unfold up2
    by_cases h1 : a = b ∧ k + 1 ≤ j ∧ j < k + 1 + n
    · rw [if_pos h1, if_pos (by omega)]
    · rw [if_neg h1]
      by_cases h2 : a = b ∧ j = k
      · rw [if_pos h2, if_pos (by omega)]
      · rw [if_neg h2, if_neg (by omega)]
theorem cg_fa {b c e a j : Nat} {x : CS} : (cgC t b c e x).2.1 a j = if a = b ∧ j = 1 then -1 else if a = b ∧ j = 0 then nI c else if a = b ∧ j < 8 then nI 0 else x.2.1 a j := by
  unfold cgC
  have q := lp_fa2 (b := b) 8 0 x a j
  generalize lpS (fun j s => sFa b j (nI 0) s) 0 8 x = z at q ⊢
  show up2 (up2 z.2.1 b 0 (nI c)) b 1 (-1) a j = _
  unfold up2
  rw [q]
  by_cases h1 : a = b ∧ j = 1
  · rw [if_pos h1, if_pos h1]
  rw [if_neg h1, if_neg h1]
  by_cases h2 : a = b ∧ j = 0
  · rw [if_pos h2, if_pos h2]
  rw [if_neg h2, if_neg h2]
  by_cases h3 : a = b ∧ j < 8
  · rw [if_pos (by omega), if_pos h3]
  · rw [if_neg (by omega), if_neg h3]
theorem cl_loop : ∀ k, (fun x : CS => (∀ b, b < k → x.2.1 b 0 = nI (cm b) ∧ x.2.1 b 1 = -1 ∧ ∀ j, 2 ≤ j → j < 8 → x.2.1 b j = nI 0) ∧ x.2.2.2.1 = (fun _ _ => none) ∧ x.2.2.1 = (cl0 t nC go l8 l9 mi).2.2.1 ∧ x.2.2.2.2.1 = (cl0 t nC go l8 l9 mi).2.2.2.2.1 ∧ x.2.2.2.2.2.1 = [] ∧ x.2.2.2.2.2.2.1 = (fun i => decide (i < nC)) ∧ (∀ v, (hbE go v = true ∨ ∃ b, b < k ∧ (T b = v ∨ cm b = v)) → x.2.2.2.2.2.2.2 v = true) ∧ (∀ i, i ≠ t + 4 → x.1 i = (cl0 t nC go l8 l9 mi).1 i)) (clC t nC k go l8 l9 cm T mi)
  | 0 => ⟨fun b hb => absurd hb (by omega), rfl, rfl, rfl, rfl, rfl, fun v hv => by
      rcases hv with hv | ⟨b, hb, _⟩
      · exact hv
      · omega, fun _ _ => rfl⟩
  | k + 1 => by
    obtain ⟨i1, i2, i3, i4, i5, i6, i7, i8⟩ := cl_loop k
    have e : clC t nC (k + 1) go l8 l9 cm T mi = cgC t k (cm k) (T k) (clC t nC k go l8 l9 cm T mi) := by
      unfold clC; rw [lpS_snoc, Nat.zero_add]
    rw [e]
    generalize clC t nC k go l8 l9 cm T mi = x at i1 i2 i3 i4 i5 i6 i7 i8 ⊢
    obtain ⟨q1, q2, q3, q4, q5, q6, q7⟩ := cgC_q (t := t) (b := k) (c := cm k) (e := T k) (x := x)
    refine ⟨fun b hb => ?_, ?_, q3.trans i3, q4.trans i4, q5.trans i5, q6.trans i6, fun v hv => ?_, fun i hi => ?_⟩
    · rw [cg_fa, cg_fa]
      by_cases hbk : b = k
      · subst hbk
        refine ⟨?_, ?_, fun j h1 h2 => ?_⟩
        · rw [if_neg (by omega), if_pos ⟨rfl, rfl⟩]
        · rw [if_pos ⟨rfl, rfl⟩]
        · rw [cg_fa, if_neg (by omega), if_neg (by omega), if_pos ⟨rfl, h2⟩]
      · obtain ⟨z1, z2, z3⟩ := i1 b (by omega)
        rw [if_neg (by omega), if_neg (by omega), if_neg (by omega), if_neg (by omega), if_neg (by omega), if_neg (by omega)]
        refine ⟨z1, z2, fun j h1 h2 => ?_⟩
        rw [cg_fa, if_neg (by omega), if_neg (by omega), if_neg (by omega)]
        exact z3 j h1 h2
    · rw [q2, i2]
      funext i j
      unfold up2
      split
      · rfl
      · split <;> rfl
    · rw [q7]
      unfold ud
      by_cases h1 : v = T k
      · rw [if_pos h1]
      rw [if_neg h1]
      by_cases h2 : v = cm k
      · rw [if_pos h2]
      rw [if_neg h2]
      refine i7 v ?_
      rcases hv with hv | ⟨b, hb, hv⟩
      · exact Or.inl hv
      · refine Or.inr ⟨b, ?_, hv⟩
        have : b ≠ k := fun e => by subst e; omega
        omega
    · rw [q1, up2_row hi]; exact i8 i hi
theorem hbE_gB {v : Nat} (hv : v < 24) (hg : gB go v = true) : hbE go v = true := by
  have hg2 := hg
  unfold gB at hg2
  simp only [Bool.and_eq_true, decide_eq_true_eq] at hg2
  unfold hbE
  rw [if_neg (by omega)]
  unfold hbz
  rw [hg]
  have h1 := Nat.div_add_mod 23 go
  have h2 := Nat.mod_lt 23 hg2.1.1
  have : v < (23 / go + 1) * go := by rw [Nat.succ_mul, Nat.mul_comm]; omega
  simp [this]
theorem cl0_2 {c j : Nat} (hc : c < 8) (hj : j < 3) : (cl0 t nC go l8 l9 mi).2.2.1 c j = nI 0 := by
  show up2 (clW t nC l8 l9 mi) t 13 _ (t + 2) (c * 3 + j) = nI 0
  rw [up2_row (by omega)]
  unfold clW
  rw [up2_row (by omega), up2_row (by omega), up2_row (by omega), rs_row (by omega), rs_row (by omega)]
  exact if_pos ⟨rfl, by omega⟩
theorem cl0_8 {c j : Nat} (hl : l8 = 192) (hc : c < 8) (hj : j < 24) : (cl0 t nC go l8 l9 mi).2.2.2.2.1 c j = -1 := by
  show up2 (clW t nC l8 l9 mi) t 13 _ (t + 8) (c * 24 + j) = -1
  rw [up2_row (by omega)]
  unfold clW
  rw [up2_row (by omega), up2_row (by omega), up2_row (by omega), rs_row (by omega)]
  exact if_pos ⟨rfl, by omega⟩
theorem cl0_9 {j : Nat} (hl : l9 = 24) (hj : j < 24) : (cl0 t nC go l8 l9 mi).1 (t + 9) j = nI 0 := by
  show up2 (clW t nC l8 l9 mi) t 13 _ (t + 9) j = nI 0
  rw [up2_row (by omega)]
  unfold clW
  rw [up2_row (by omega), up2_row (by omega), up2_row (by omega)]
  exact if_pos ⟨rfl, by omega⟩
theorem cl0_14 : (cl0 t nC go l8 l9 mi).1 t 14 = nI 23 := by
  show up2 (clW t nC l8 l9 mi) t 13 _ t 14 = nI 23
  rw [up2_n (by omega)]
  unfold clW
  exact up2_s
/-- the pools of class and reference are alike -/
def SP (t nC nG go l8 l9 : Nat) (m mi : pMI) (F T cm rk ord : Nat → Nat) (ob : Int32) : Prop :=
  dayP m nC nG F T cm rk ord ob go ∧ PoolC mi nC nG F T ∧ (∀ c, c < nC → mi 4 c = m (102 + c) 0 ∧ mi 5 c = m (102 + c) 1) ∧ 32 ≤ t ∧ 0 < ob ∧ (t = 57 → l8 = 192 ∧ l9 = 24)
theorem sp_PL {h : Nat} (H : SP t nC nG go l8 l9 m mi F T cm rk ord ob) (hh : h < 24) : PL2 t nC nG m (frC t nC go l8 l9 mi) F T h :=
  ⟨fun c hc => by
    have ht := H.2.2.2.1
    rw [frC_row (by omega), frC_row (by omega)]; exact H.2.2.1 c hc, H.2.2.2.1, by omega, H.1.1.2.2.1, H.1.1.2.2.2.1, fun b hb => (H.1.1.2.2.2.2 b hb).2.2.2.2⟩
theorem sp_oP (H : SP t nC nG go l8 l9 m mi F T cm rk ord ob) : oP nG rk ord :=
  ⟨fun q hq => ⟨H.1.2.2.2.2.2.2 q hq, (H.1.2.2.2.2.2.1.2 q (by have := H.1.1.2.2.2.1; omega)).2⟩, fun b hb => (H.1.2.2.2.2.2.1.1 b (by have := H.1.1.2.2.2.1; omega)).2.2⟩
theorem inv_0 (H : SP t nC nG go l8 l9 m mi F T cm rk ord ob) : INV t nC nG go m (frC t nC go l8 l9 mi) F T cm rk 0 (dy0 m) (clC t nC nG go l8 l9 cm T mi) := by
  have hG8 := H.1.1.2.2.2.1
  have hC8 := H.1.1.2.2.1
  obtain ⟨i1, i2, i3, i4, i5, i6, i7, i8⟩ := cl_loop (t := t) (nC := nC) (go := go) (l8 := l8) (l9 := l9) (mi := mi) (cm := cm) (T := T) nG
  have hF := cl_fr (t := t) (nC := nC) (nG := nG) (go := go) (l8 := l8) (l9 := l9) (m := mi) (cm := cm) (T := T)
  generalize clC t nC nG go l8 l9 cm T mi = x at i1 i2 i3 i4 i5 i6 i7 i8 hF ⊢
  have hcl : ∀ i j, (i = 199 ∨ i = 200 ∨ i = 201 ∨ i = 202 ∨ i = 203 ∨ i = 206 ∨ i = 207 ∨ i = 208) → j < 8 → (dy0 m).1 i j = nI 0 := fun i j hi hj => by
    show clM m i j = nI 0
    unfold clM clr
    rw [if_pos hj]
    rcases hi with rfl | rfl | rfl | rfl | rfl | rfl | rfl | rfl <;> rfl
  refine ⟨⟨⟨fun b hb => ?_, fun c hc => ?_, ⟨fun b c _ hz => (by cases hz), fun c b hz => (by cases hz)⟩, fun c => ?_⟩, fun h57 => ⟨⟨fun c hc j hj => absurd hj (by omega), fun c hc j _ hj => ?_⟩, fun j hj => absurd hj (by omega), fun j _ hj => ?_⟩, hF⟩, ⟨fun z => ⟨fun hz => ?_, fun hz => ?_⟩, ?_⟩, Or.inr i5, fun b hb _ => ⟨rfl, rfl, rfl⟩, fun b hb hz => absurd hz (by omega), Or.inl ⟨?_, fun b _ => rfl⟩, fun b hb v hv => ?_, fun v _ hv hz => ?_, fun b hb => (i1 b hb).1, fun c hc j hj => absurd hj (by omega)⟩
  · obtain ⟨z1, z2, z3⟩ := i1 b hb
    unfold GRs
    rw [i2, hcl 199 b (by omega) (by omega), hcl 200 b (by omega) (by omega), hcl 201 b (by omega) (by omega), hcl 202 b (by omega) (by omega), hcl 203 b (by omega) (by omega)]
    refine ⟨rfl, rfl, z2, (z3 5 (by omega) (by omega)).symm, (z3 6 (by omega) (by omega)).symm, ⟨0, z3 5 (by omega) (by omega), Nat.le_refl _, fun _ => rfl, fun _ => rfl⟩, ⟨(z3 2 (by omega) (by omega)).symm, (z3 3 (by omega) (by omega)).symm⟩, (z3 7 (by omega) (by omega)).symm⟩
  · unfold CRs
    rw [i3, hcl 206 c (by omega) (by omega), hcl 207 c (by omega) (by omega), hcl 208 c (by omega) (by omega)]
    exact ⟨(cl0_2 (by omega) (by omega)).symm, (cl0_2 (by omega) (by omega)).symm, (cl0_2 (by omega) (by omega)).symm⟩
  · rw [i6]
    show decide (c < nC) = (decide (c < nC) && true)
    rw [Bool.and_true]
  · rw [i4]; exact cl0_8 (H.2.2.2.2.2 h57).1 (by omega) hj
  · rw [i8 _ (by omega)]; exact cl0_9 (H.2.2.2.2.2 h57).2 hj
  · rw [i5] at hz; cases hz
  · obtain ⟨_, v, hv, _⟩ := hz; cases hv
  · rw [i5]; exact List.Pairwise.nil
  · rw [i8 t (by omega)]; exact cl0_14
  · rw [i2] at hv; cases hv
  · refine i7 v ?_
    rcases hz with hz | hz
    · exact Or.inr hz
    · exact Or.inl (hbE_gB hv hz)
theorem day_inv (H : SP t nC nG go l8 l9 m mi F T cm rk ord ob) : ∀ h, h ≤ 24 → INV t nC nG go m (frC t nC go l8 l9 mi) F T cm rk h (lpS (hfD m nC nG F T cm rk ord ob go) 0 h (dy0 m)) (rnC t nC nG go l8 l9 F T cm ord ob mi h)
  | 0, _ => inv_0 H
  | h + 1, hh => by
    have e : rnC t nC nG go l8 l9 F T cm ord ob mi (h + 1) = rnS t nC nG go F T cm ord ob h (rnC t nC nG go l8 l9 F T cm ord ob mi h) := by
      unfold rnC; rw [lpS_snoc, Nat.zero_add]
    rw [e, lpS_snoc, Nat.zero_add]
    exact inv_step (sp_PL H (by omega)) (sp_oP H) H.2.2.2.2.1 (by omega) (day_inv H h (by omega))
theorem day_pre (H : SP t nC nG go l8 l9 m mi F T cm rk ord ob) (h : Nat) (hh : h < 24) : preH t nC nG go (frC t nC go l8 l9 mi) F T cm ord ob h (rnC t nC nG go l8 l9 F T cm ord ob mi h) :=
  inv_pre (sp_PL H hh) (sp_oP H) H.2.2.2.2.1 hh (fun b hb => (H.1.1.2.2.2.2 b hb).2.2.2.1) (day_inv H h (by omega))
theorem rk_q {k : Nat} {x : CS} : (lpS (rkS t) 0 k x).1 = x.1 ∧ (lpS (rkS t) 0 k x).2.2 = x.2.2 ∧ (∀ b j, (lpS (rkS t) 0 k x).2.1 b j = if b < k ∧ j = 4 then x.2.1 b 3 - x.1 9 b * lostC x.1 x b - x.1 3 8 * x.2.1 b 5 else x.2.1 b j) := by
  induction k with
  | zero => exact ⟨rfl, rfl, fun b j => by rw [if_neg (by omega)]; rfl⟩
  | succ k ih =>
    obtain ⟨i1, i2, i3⟩ := ih
    rw [lpS_snoc, Nat.zero_add]
    generalize lpS (rkS t) 0 k x = z at i1 i2 i3 ⊢
    refine ⟨i1, i2, fun b j => ?_⟩
    show up2 z.2.1 k 4 (z.2.1 k 3 - z.1 9 k * lostC z.1 z k - z.1 3 8 * z.2.1 k 5) b j = _
    have e0 : lostC z.1 z k = lostC x.1 x k := by
      have e1 : z.2.1 k 0 = x.2.1 k 0 := by rw [i3, if_neg (by omega)]
      unfold lostC; rw [i1, e1]
    rw [e0, i1, i3 k 3, i3 k 5, if_neg (by omega), if_neg (by omega)]
    unfold up2
    by_cases h1 : b = k ∧ j = 4
    · rw [if_pos h1, if_pos (by omega), h1.1]
    · rw [if_neg h1, i3]
      by_cases h2 : b < k ∧ j = 4
      · rw [if_pos h2, if_pos (by omega)]
      · rw [if_neg h2, if_neg (by omega)]
/-- what a day was, on both sides -/
def DAYF (t nC nG : Nat) (F cm : Nat → Nat) (d : DS) (y : CS) : Prop :=
  (∀ b, b < nG → y.2.1 b 0 = nI (cm b) ∧ y.2.1 b 1 = oI (d.2.1 198 b) ∧ y.2.1 b 2 = d.1 199 b ∧ y.2.1 b 3 = d.1 200 b ∧ y.2.1 b 4 = netM (wD d) b ∧ y.2.1 b 5 = d.1 201 b ∧ y.2.1 b 6 = d.1 202 b ∧ y.2.1 b 7 = d.1 203 b ∧ ∃ n, n < 1000 ∧ y.2.1 b 5 = nI n) ∧
  (∀ c, c < nC → y.2.2.1 c 0 = d.1 206 c ∧ y.2.2.1 c 1 = d.1 207 c ∧ y.2.2.1 c 2 = d.1 208 c) ∧
  (t = 57 → (∀ c, c < nC → ∀ j, j < 24 → y.2.2.2.2.1 c j = d.1 (211 + c) j) ∧ (∀ j, j < 24 → y.1 (t + 9) j = d.1 209 j)) ∧ LSR t nG cm d y ∧ PLI nC nG F 24 d
theorem day_all (H : SP t nC nG go l8 l9 m mi F T cm rk ord ob) (hk : ∀ b, b < nG → mi 6 b = m (121 + b) 0 ∧ mi 9 b = m (121 + b) 3) (hp : mi 3 8 = m 91 4) : DAYF t nC nG F cm (dayD m nC nG F T cm rk ord ob go) (runC t nC nG go l8 l9 F T cm ord ob mi) := by
  have ht := H.2.2.2.1
  have hI := day_inv H 24 (Nat.le_refl _)
  obtain ⟨hok, hfm⟩ := day_ok H.1
  unfold runC
  obtain ⟨r1, r2, r3⟩ := rk_q (t := t) (k := nG) (x := rnC t nC nG go l8 l9 F T cm ord ob mi 24)
  have hFr := rn_fr (t := t) (nC := nC) (nG := nG) (go := go) (l8 := l8) (l9 := l9) (F := F) (T := T) (cm := cm) (ord := ord) (un := ob) (m := mi) (h := 24)
  generalize rnC t nC nG go l8 l9 F T cm ord ob mi 24 = x at hI r1 r2 r3 hFr ⊢
  generalize lpS (rkS t) 0 nG x = z at r1 r2 r3 ⊢
  unfold dayD at hok hfm ⊢
  generalize lpS (hfD m nC nG F T cm rk ord ob go) 0 24 (dy0 m) = d at hI hok hfm ⊢
  obtain ⟨i1, i2, i3, i4, i5, i6, i7, i8, i9, i10⟩ := hI
  have hT : ∀ b, b < nG → d.2.1 195 b = none ∧ d.2.1 196 b = none := fun b hb => i5 b hb (by have := (H.1.1.2.2.2.2 b hb).2.2.2.1; omega)
  have hown : ∀ c, d.2.1 204 c = none := fun c => by
    cases ho : d.2.1 204 c with
    | none => rfl
    | some b =>
      obtain ⟨z1, z2⟩ := i1.1.2.2.1.2 c b ho
      rw [(hT b z1).1] at z2; cases z2
  refine ⟨fun b hb => ?_, fun c hc => ?_, fun h57 => ⟨fun c hc j hj => ?_, fun j hj => ?_⟩, ?_, i10⟩
  · have g := i1.1.1 b hb
    unfold GRs GR at g
    rw [(hT b hb).1, (hT b hb).2] at g
    obtain ⟨g1, g2, g3, g4, g5, ⟨n0, g6, g6', _⟩, ⟨g7, g8⟩, g9⟩ := g
    have e : ∀ j, j ≠ 4 → z.2.1 b j = x.2.1 b j := fun j hj => by rw [r3, if_neg (by omega)]
    refine ⟨(e 0 (by omega)).trans (i9 b hb), (e 1 (by omega)).trans g3, (e 2 (by omega)).trans g7.symm, (e 3 (by omega)).trans g8.symm, ?_, (e 5 (by omega)).trans g4.symm, (e 6 (by omega)).trans g5.symm, (e 7 (by omega)).trans g9.symm, n0, by omega, (e 5 (by omega)).trans g6⟩
    rw [r3, if_pos ⟨hb, rfl⟩]
    unfold netM
    have hm : ∀ i j, i < 195 → wD d i j = m i j := fun i j hi => by rw [wD_lt hi, hfm i (by omega)]
    have hx : ∀ i j, i < 10 → x.1 i j = mi i j := fun i j hi => by rw [hFr i j (by omega), frC_row (by omega)]
    have hG8 := H.1.1.2.2.2.1
    rw [hm (121 + b) 3 (by omega), hm 91 4 (by omega), wD_m (by decide) (by decide), wD_m (by decide) (by decide), g8, g4, hx 9 b (by omega), hx 3 8 (by omega), (hk b hb).2, hp]
    have el : lostC x.1 x b = lostM (wD d) b := by
      unfold lostC lostM
      rw [hm (121 + b) 0 (by omega), hm 194 b (by omega), hx 6 b (by omega), (hk b hb).1, (i9 b hb : x.2.1 b 0 = nI (cm b)), (H.1.2.2.2.2.1 b hb).1]
      generalize m (121 + b) 0 - nI (cm b) = q
      by_cases h1 : q < nI 0
      · rw [if_pos h1, if_neg (fun z => absurd (Int32.lt_trans z h1) (by decide))]
      · rw [if_neg h1]
        by_cases h2 : 0 < q
        · rw [if_pos h2]
        · rw [if_neg h2]
          exact Int32.le_antisymm (Int32.not_lt.mp h1) (Int32.not_lt.mp h2)
    rw [el]
  · have g := i1.1.2.1 c hc
    unfold CRs CR at g
    rw [hown c] at g
    have e : z.2.2.1 = x.2.2.1 := by rw [r2]
    rw [e]
    exact ⟨g.2.1.symm, g.2.2.symm, g.1.symm⟩
  · have g := (i1.2.1 h57).1.1 c hc j hj
    rw [hown c] at g
    have e : z.2.2.2.2.1 = x.2.2.2.2.1 := by rw [r2]
    rw [e]; exact g.symm
  · rw [r1]
    refine b_ext (fun i hi => ?_)
    have g := (i1.2.1 h57).2.1 j hj i hi
    rw [g]
    by_cases hig : i < nG
    · rw [(hT i hig).2]; simp [wtB]
    · simp [hig]
  · unfold LSR; rw [r1]; exact i6
end REL9

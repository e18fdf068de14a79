/-! ===== pools as numbers ===== -/
/-- chairs, guests, goes, unused, price, chairs' and guests' numbers -/
abbrev PD : Type := Nat × Nat × Nat × Nat × Nat × (Nat → Nat → Nat) × (Nat → Nat → Nat)
def pF (P : PD) (g : Nat) : Nat := P.2.2.2.2.2.2 g 1
def pT (P : PD) (g : Nat) : Nat := P.2.2.2.2.2.2 g 2
def okPD (P : PD) : Prop := P.1 ≤ 8 ∧ P.2.1 ≤ 8 ∧ P.2.2.1 < 24 ∧ 1 ≤ P.2.2.2.1 ∧ P.2.2.2.1 < 24 ∧ P.2.2.2.2.1 < 100 ∧ (∀ c, c < P.1 → P.2.2.2.2.2.1 c 0 < 10 ∧ P.2.2.2.2.2.1 c 1 < 10) ∧ (∀ g, g < P.2.1 → P.2.2.2.2.2.2 g 0 < 24 ∧ P.2.2.2.2.2.2 g 1 < 23 ∧ P.2.2.2.2.2.2 g 1 < P.2.2.2.2.2.2 g 2 ∧ P.2.2.2.2.2.2 g 2 < 24 ∧ P.2.2.2.2.2.2 g 3 < 10)
/-- the reference holds this pool -/
def rfP (mi : pMI) (P : PD) : Prop := mi 91 0 = nI P.1 ∧ mi 91 1 = nI P.2.1 ∧ mi 91 2 = nI P.2.2.1 ∧ mi 91 3 = nI P.2.2.2.1 ∧ mi 91 4 = nI P.2.2.2.2.1 ∧ (∀ c, c < P.1 → mi (102 + c) 0 = nI (P.2.2.2.2.2.1 c 0) ∧ mi (102 + c) 1 = nI (P.2.2.2.2.2.1 c 1)) ∧ (∀ g, g < P.2.1 → mi (121 + g) 0 = nI (P.2.2.2.2.2.2 g 0) ∧ mi (121 + g) 1 = nI (P.2.2.2.2.2.2 g 1) ∧ mi (121 + g) 2 = nI (P.2.2.2.2.2.2 g 2) ∧ mi (121 + g) 3 = nI (P.2.2.2.2.2.2 g 3))
/-- the class holds this pool -/
def clP (mi : pMI) (P : PD) : Prop := mi 3 9 = nI P.1 ∧ mi 3 10 = nI P.2.1 ∧ mi 3 6 = nI P.2.2.1 ∧ mi 3 7 = nI P.2.2.2.1 ∧ mi 3 8 = nI P.2.2.2.2.1 ∧ (∀ c, c < P.1 → mi 4 c = nI (P.2.2.2.2.2.1 c 0) ∧ mi 5 c = nI (P.2.2.2.2.2.1 c 1)) ∧ (∀ g, g < P.2.1 → mi 6 g = nI (P.2.2.2.2.2.2 g 0) ∧ mi 7 g = nI (P.2.2.2.2.2.2 g 1) ∧ mi 8 g = nI (P.2.2.2.2.2.2 g 2) ∧ mi 9 g = nI (P.2.2.2.2.2.2 g 3))
theorem rfP_M {mi : pMI} {P : PD} (h : rfP mi P) (hP : okPD P) : PoolM mi P.1 P.2.1 (pF P) (pT P) :=
  ⟨h.1, h.2.1, hP.1, hP.2.1, fun g hg => ⟨(h.2.2.2.2.2.2 g hg).2.1, (h.2.2.2.2.2.2 g hg).2.2.1, (hP.2.2.2.2.2.2.2 g hg).2.1, by have := (hP.2.2.2.2.2.2.2 g hg).2.2.2.1; show P.2.2.2.2.2.2 g 2 ≤ 23; omega, (hP.2.2.2.2.2.2.2 g hg).2.2.1⟩⟩
theorem clP_C {mi : pMI} {P : PD} (h : clP mi P) (hP : okPD P) : PoolC mi P.1 P.2.1 (pF P) (pT P) :=
  ⟨h.1, h.2.1, hP.1, hP.2.1, fun g hg => ⟨(h.2.2.2.2.2.2 g hg).2.1, (h.2.2.2.2.2.2 g hg).2.2.1, (hP.2.2.2.2.2.2.2 g hg).2.1, by have := (hP.2.2.2.2.2.2.2 g hg).2.2.2.1; show P.2.2.2.2.2.2 g 2 ≤ 23; omega, (hP.2.2.2.2.2.2.2 g hg).2.2.1⟩⟩
/-- an order of guests and its other way round -/
def okO2 (nG : Nat) (rk ord : Nat → Nat) : Prop := (∀ b, b < 8 → rk b < 8 ∧ ord (rk b) = b) ∧ (∀ q, q < 8 → ord q < 8 ∧ rk (ord q) = q) ∧ (∀ q, q < nG → ord q < nG)
/-- worlds made of a pool alone -/
def mR (P : PD) (cm rk : Nat → Nat) (un : Nat) : pMI := fun i j =>
  if i = 91 then nI (match j with | 0 => P.1 | 1 => P.2.1 | 2 => P.2.2.1 | 3 => P.2.2.2.1 | _ => P.2.2.2.2.1)
  else if i = 87 then nI un else if i = 194 then nI (cm j) else if i = 197 then nI (rk j)
  else if i < 120 then nI (P.2.2.2.2.2.1 (i - 102) j) else nI (P.2.2.2.2.2.2 (i - 121) j)
def mC (P : PD) (cm ord : Nat → Nat) : pMI := fun i j =>
  if i = 3 then nI (match j with | 9 => P.1 | 10 => P.2.1 | 6 => P.2.2.1 | 7 => P.2.2.2.1 | _ => P.2.2.2.2.1)
  else if i = 4 then nI (P.2.2.2.2.2.1 j 0) else if i = 5 then nI (P.2.2.2.2.2.1 j 1) else if i = 6 then nI (P.2.2.2.2.2.2 j 0) else if i = 7 then nI (P.2.2.2.2.2.2 j 1) else if i = 8 then nI (P.2.2.2.2.2.2 j 2) else if i = 9 then nI (P.2.2.2.2.2.2 j 3)
  else if i = 57 then 1 else if i = 63 then nI (ord j) else nI (cm j)
theorem mR_rf (P : PD) (hP : okPD P) (cm rk : Nat → Nat) (un : Nat) : rfP (mR P cm rk un) P := by
  refine ⟨rfl, rfl, rfl, rfl, rfl, fun c hc => ?_, fun g hg => ?_⟩
  · have h1 := hP.1
    have e : ∀ j, mR P cm rk un (102 + c) j = nI (P.2.2.2.2.2.1 c j) := fun j => by
      unfold mR
      rw [if_neg (by omega), if_neg (by omega), if_neg (by omega), if_neg (by omega), if_pos (by omega), show 102 + c - 102 = c by omega]
    exact ⟨e 0, e 1⟩
  · have h1 := hP.2.1
    have e : ∀ j, mR P cm rk un (121 + g) j = nI (P.2.2.2.2.2.2 g j) := fun j => by
      unfold mR
      rw [if_neg (by omega), if_neg (by omega), if_neg (by omega), if_neg (by omega), if_neg (by omega), show 121 + g - 121 = g by omega]
    exact ⟨e 0, e 1, e 2, e 3⟩
theorem mC_cl (P : PD) (cm ord : Nat → Nat) : clP (mC P cm ord) P := ⟨rfl, rfl, rfl, rfl, rfl, fun _ _ => ⟨rfl, rfl⟩, fun _ _ => ⟨rfl, rfl, rfl, rfl⟩⟩
theorem rf_day {mi : pMI} {P : PD} {cm rk ord : Nat → Nat} {un : Nat} (h : rfP mi P) (hP : okPD P) (hcm : ∀ b, b < P.2.1 → mi 194 b = nI (cm b) ∧ cm b < 24) (hrk : ∀ b, b < 8 → mi 197 b = nI (rk b)) (hO : okO2 P.2.1 rk ord) (hu : mi 87 53 = nI un) : dayP mi P.1 P.2.1 (pF P) (pT P) cm rk ord (nI un) P.2.2.1 :=
  ⟨rfP_M h hP, hu, h.2.2.1, hP.2.2.1, hcm, ⟨fun b hb => ⟨hrk b hb, hO.1 b hb⟩, hO.2.1⟩, hO.2.2⟩
/-- a day -/
def DY (P : PD) (cm rk ord : Nat → Nat) (un : Nat) : DS := dayD (mR P cm rk un) P.1 P.2.1 (pF P) (pT P) cm rk ord (nI un) P.2.2.1
theorem sp_of {t l8 l9 un : Nat} {m mi : pMI} {P : PD} {cm rk ord : Nat → Nat} (hm : rfP m P) (hc : clP mi P) (hP : okPD P) (hcm : ∀ b, b < P.2.1 → m 194 b = nI (cm b) ∧ cm b < 24) (hrk : ∀ b, b < 8 → m 197 b = nI (rk b)) (hO : okO2 P.2.1 rk ord) (hu : m 87 53 = nI un) (hu1 : 1 ≤ un ∧ un < 24) (ht : 32 ≤ t) (hl : t = 57 → l8 = 192 ∧ l9 = 24) : SP t P.1 P.2.1 P.2.2.1 l8 l9 m mi (pF P) (pT P) cm rk ord (nI un) :=
  ⟨rf_day hm hP hcm hrk hO hu, clP_C hc hP, fun c h => ⟨(hc.2.2.2.2.2.1 c h).1.trans (hm.2.2.2.2.2.1 c h).1.symm, (hc.2.2.2.2.2.1 c h).2.trans (hm.2.2.2.2.2.1 c h).2.symm⟩, ht, (nI_gz (by omega)).mpr (by omega), hl⟩
theorem vC_pos {mi : pMI} {P : PD} {F T : Nat → Nat} (h : clP mi P) (hP : okPD P) {b c k : Nat} (hc : c < P.1) (hT : T b < 24) : -1 < vC mi F T b k c := by
  unfold vC sW
  obtain ⟨h1, h2⟩ := hP.2.2.2.2.2.2.1 c hc
  rw [(h.2.2.2.2.2.1 c hc).1, (h.2.2.2.2.2.1 c hc).2, pk_mul, pk_mul, nI_add]
  have z1 : P.2.2.2.2.2.1 c 0 * (min (T b) 12 - max k (F b)) ≤ 10 * 12 := Nat.mul_le_mul (by omega) (by omega)
  have z2 : P.2.2.2.2.2.1 c 1 * (T b - max (max k (F b)) 12) ≤ 10 * 24 := Nat.mul_le_mul (by omega) (by omega)
  refine Int32.lt_of_lt_of_le (by decide : (-1 : Int32) < nI 0) (nI_le (by omega) ?_)
  omega
set_option maxRecDepth 100000 in
theorem c_runP (Γ : pTG) (g : pGG) (mi : pMI) (ml : pML) (hSh : Sh g) (t : Nat) (hC : ShC g t) (ht : 32 ≤ t) (P : PD) (hP : okPD P) (hc : clP mi P) (hv l8 l9 un : Nat) (cm rk ord : Nat → Nat) (hO : okO2 P.2.1 rk ord) (hl : (l8, l9) = (if t = 57 then 192 else 0, if t = 57 then 24 else 0)) (hkv : g.2.1 hv = (20, 8)) (hvt : hv < t ∨ t + 9 < hv) (hcm : ∀ b, b < P.2.1 → mi hv b = nI (cm b) ∧ cm b < 24) (hpa : mi t 10 = bI (decide (t = 57))) (hod : ∀ i, i < P.2.1 → mi (t + 6) i = nI (ord i)) (hu : 1 ≤ un ∧ un < 24) :
    cV Γ 5 mX2_run [.ref t, .ref hv, .int (nI un)] g mi ml (wC t P.2.1 (runC t P.1 P.2.1 P.2.2.1 l8 l9 (pF P) (pT P) cm ord (nI un) mi)) ml ∧ DAYF t P.1 P.2.1 (pF P) cm (DY P cm rk ord un) (runC t P.1 P.2.1 P.2.2.1 l8 l9 (pF P) (pT P) cm ord (nI un) mi) ∧ FrC t (frC t P.1 P.2.2.1 l8 l9 mi) (runC t P.1 P.2.1 P.2.2.1 l8 l9 (pF P) (pT P) cm ord (nI un) mi) := by
  have e8 : l8 = if t = 57 then 192 else 0 := congrArg Prod.fst hl
  have e9 : l9 = if t = 57 then 24 else 0 := congrArg Prod.snd hl
  have hS : SP t P.1 P.2.1 P.2.2.1 l8 l9 (mR P cm rk un) mi (pF P) (pT P) cm rk ord (nI un) := sp_of (mR_rf P hP cm rk un) hc hP (fun b hb => ⟨rfl, (hcm b hb).2⟩) (fun b hb => rfl) hO rfl hu ht (fun h57 => by rw [e8, e9, if_pos h57, if_pos h57]; exact ⟨rfl, rfl⟩)
  refine ⟨?_, ?_, ?_⟩
  · refine c_Crun Γ g mi ml hSh t hC ht P.1 P.2.1 P.2.2.1 l8 l9 hv (pF P) (pT P) cm ord (nI un) (clP_C hc hP) hc.2.2.1 hP.2.2.1 (by rw [sck_8 hC, e8]) (by rw [sck_9 hC, e9]) (by rw [e8]; split <;> omega) (by rw [e9]; split <;> omega) hkv hvt hcm hpa (fun i hi => ⟨hod i hi, hO.2.2 i hi⟩) (fun b c h hb hcc _ => vC_pos hc hP hcc ?_) (fun h hh _ => day_pre hS h hh)
    exact (hP.2.2.2.2.2.2.2 b hb).2.2.2.1
  · have hm := mR_rf P hP cm rk un
    exact day_all hS (fun b hb => ⟨(hc.2.2.2.2.2.2 b hb).1.trans (hm.2.2.2.2.2.2 b hb).1.symm, (hc.2.2.2.2.2.2 b hb).2.2.2.trans (hm.2.2.2.2.2.2 b hb).2.2.2.symm⟩) (hc.2.2.2.2.1.trans hm.2.2.2.2.1.symm)
  · unfold runC
    exact FrC_e rn_fr rk_q.1
/-- the last half in which one who came got a chair at once -/
def lsN (cm : Nat → Nat) (G : Nat → Bool) : Nat → Option Nat
  | 0 => none
  | n + 1 => if G n = true then some (max ((lsN cm G n).getD 0) (cm n)) else lsN cm G n
theorem lsN_n {cm : Nat → Nat} {G : Nat → Bool} : ∀ {n : Nat}, (∀ b, b < n → G b = false) → lsN cm G n = none
  | 0, _ => rfl
  | n + 1, h => by unfold lsN; rw [h n (by omega), if_neg (by decide)]; exact lsN_n (fun b hb => h b (by omega))
theorem lsN_s {cm : Nat → Nat} {G : Nat → Bool} {v : Nat} : ∀ {n : Nat}, (∀ a, a < n → G a = true → cm a ≤ v) → (lsN cm G n).getD 0 ≤ v ∧ ((∃ b, b < n ∧ G b = true ∧ cm b = v) → lsN cm G n = some v)
  | 0, _ => ⟨Nat.zero_le _, fun ⟨b, hb, _⟩ => absurd hb (by omega)⟩
  | n + 1, h => by
    obtain ⟨i1, i2⟩ := lsN_s (n := n) (fun a ha hg => h a (by omega) hg)
    unfold lsN
    by_cases hG : G n = true
    · rw [if_pos hG]
      have := h n (by omega) hG
      refine ⟨by rw [Option.getD_some]; omega, fun ⟨b, hb, hb2, hb3⟩ => ?_⟩
      by_cases hbn : b = n
      · subst hbn; congr 1; omega
      · rw [i2 ⟨b, by omega, hb2, hb3⟩, Option.getD_some]; congr 1; omega
    · rw [if_neg hG]
      refine ⟨i1, fun ⟨b, hb, hb2, hb3⟩ => i2 ⟨b, ?_, hb2, hb3⟩⟩
      have : b ≠ n := fun e => hG (e ▸ hb2)
      omega
theorem lsr_v {t nG : Nat} {cm : Nat → Nat} {s : DS} {y : CS} (h : LSR t nG cm s y) : y.1 t 14 = nI ((lsN cm s.2.2 nG).getD 23) := by
  rcases h with ⟨h1, h2⟩ | ⟨b, hb, hg, h1, h2⟩
  · rw [lsN_n h2]; exact h1
  · rw [(lsN_s h2).2 ⟨b, hb, hg, rfl⟩]; exact h1
theorem lsN_lt {cm : Nat → Nat} {G : Nat → Bool} {n : Nat} (h : ∀ b, b < n → cm b < 24) : (lsN cm G n).getD 23 < 24 := by
  cases hz : lsN cm G n with
  | none => decide
  | some v =>
    have := (lsN_s (cm := cm) (G := G) (v := 23) (n := n) (fun a ha _ => by have := h a ha; omega)).1
    rw [hz] at this
    rw [Option.getD_some] at this ⊢
    omega
/-- two days of the reference that are alike -/
def DEQ (nC nG : Nat) (F cm : Nat → Nat) (d D : DS) : Prop :=
  (∀ b, b < nG → oI (d.2.1 198 b) = oI (D.2.1 198 b) ∧ d.1 199 b = D.1 199 b ∧ d.1 200 b = D.1 200 b ∧ netM (wD d) b = netM (wD D) b ∧ d.1 201 b = D.1 201 b ∧ d.1 202 b = D.1 202 b ∧ d.1 203 b = D.1 203 b ∧ ∃ n, n < 1000 ∧ D.1 201 b = nI n) ∧
  (∀ c, c < nC → d.1 206 c = D.1 206 c ∧ d.1 207 c = D.1 207 c ∧ d.1 208 c = D.1 208 c ∧ ∀ j, j < 24 → d.1 (211 + c) j = D.1 (211 + c) j) ∧ (∀ j, j < 24 → d.1 209 j = D.1 209 j) ∧ (lsN cm d.2.2 nG).getD 23 = (lsN cm D.2.2 nG).getD 23 ∧ PLI nC nG F 24 d
theorem ref_eq {P : PD} {m : pMI} {cm rk ord : Nat → Nat} {un : Nat} (hP : okPD P) (h : rfP m P) (hcm : ∀ b, b < P.2.1 → m 194 b = nI (cm b) ∧ cm b < 24) (hrk : ∀ b, b < 8 → m 197 b = nI (rk b)) (hO : okO2 P.2.1 rk ord) (hu : m 87 53 = nI un) (hu1 : 1 ≤ un ∧ un < 24) :
    DEQ P.1 P.2.1 (pF P) cm (dayD m P.1 P.2.1 (pF P) (pT P) cm rk ord (nI un) P.2.2.1) (DY P cm rk ord un) := by
  have hc := mC_cl P cm ord
  have hm := mR_rf P hP cm rk un
  have S1 : SP 57 P.1 P.2.1 P.2.2.1 192 24 m (mC P cm ord) (pF P) (pT P) cm rk ord (nI un) := sp_of h hc hP hcm hrk hO hu hu1 (by omega) (fun _ => ⟨rfl, rfl⟩)
  have S2 : SP 57 P.1 P.2.1 P.2.2.1 192 24 (mR P cm rk un) (mC P cm ord) (pF P) (pT P) cm rk ord (nI un) := sp_of hm hc hP (fun b hb => ⟨rfl, (hcm b hb).2⟩) (fun b hb => rfl) hO rfl hu1 (by omega) (fun _ => ⟨rfl, rfl⟩)
  have D1 := day_all S1 (fun b hb => ⟨(hc.2.2.2.2.2.2 b hb).1.trans (h.2.2.2.2.2.2 b hb).1.symm, (hc.2.2.2.2.2.2 b hb).2.2.2.trans (h.2.2.2.2.2.2 b hb).2.2.2.symm⟩) (hc.2.2.2.2.1.trans h.2.2.2.2.1.symm)
  have D2 := day_all S2 (fun b hb => ⟨(hc.2.2.2.2.2.2 b hb).1.trans (hm.2.2.2.2.2.2 b hb).1.symm, (hc.2.2.2.2.2.2 b hb).2.2.2.trans (hm.2.2.2.2.2.2 b hb).2.2.2.symm⟩) (hc.2.2.2.2.1.trans hm.2.2.2.2.1.symm)
  obtain ⟨a1, a2, a3, a4, a5⟩ := D1
  obtain ⟨b1, b2, b3, b4, b5⟩ := D2
  refine ⟨fun b hb => ?_, fun c hc => ?_, fun j hj => ?_, ?_, a5⟩
  · obtain ⟨_, p1, p2, p3, p4, p5, p6, p7, p8⟩ := a1 b hb
    obtain ⟨_, q1, q2, q3, q4, q5, q6, q7, n, q8, q9⟩ := b1 b hb
    exact ⟨p1.symm.trans q1, p2.symm.trans q2, p3.symm.trans q3, p4.symm.trans q4, p5.symm.trans q5, p6.symm.trans q6, p7.symm.trans q7, n, q8, q5.symm.trans q9⟩
  · obtain ⟨p1, p2, p3⟩ := a2 c hc
    obtain ⟨q1, q2, q3⟩ := b2 c hc
    exact ⟨p1.symm.trans q1, p2.symm.trans q2, p3.symm.trans q3, fun j hj => ((a3 rfl).1 c hc j hj).symm.trans ((b3 rfl).1 c hc j hj)⟩
  · exact ((a3 rfl).2 j hj).symm.trans ((b3 rfl).2 j hj)
  · have h1 := lsN_lt (G := (dayD m P.1 P.2.1 (pF P) (pT P) cm rk ord (nI un) P.2.2.1).2.2) (fun b hb => (hcm b hb).2)
    have h2 := lsN_lt (G := (DY P cm rk ord un).2.2) (fun b hb => (hcm b hb).2)
    exact nI_inj (by omega) (by omega) ((lsr_v a4).symm.trans (lsr_v b4))

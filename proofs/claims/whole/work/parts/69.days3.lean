def okA (H : Nat → HBt) (ask : Nat → Bool) : Prop := ∀ o, o < 8 → ask o = false → ∀ k1 k2 : Nat → Int32, (∀ k, k ≠ 6 → k1 k = k2 k) → (H o).2 k1 = (H o).2 k2
theorem sq_per {P : PD} {H : Nat → HBt} {wh : Nat → Nat} {ask : Nat → Bool} (hA : okA H ask) (hw : ∀ b, b < 8 → wh b < 8) (hP : okPD P) (ha : anB (fun b => ask (wh b)) P.2.1 = false) {d e : Nat} (h : sqd P H wh d = sqd P H wh e) : sqd P H wh (d + 1) = sqd P H wh (e + 1) := by
  refine sqd_ext (fun b hb => ?_)
  have hG8 := hP.2.1
  rw [sqd_s hb, sqd_s hb]
  unfold DDd
  rw [h]
  unfold nxN
  rw [hA (wh b) (hw b (by omega)) (anB_f.mp ha b hb) (knV P (sqd P H wh e) (DY P (sqd P H wh e) id id P.2.2.2.1) (d + 1) b) (knV P (sqd P H wh e) (DY P (sqd P H wh e) id id P.2.2.2.1) (e + 1) b) (fun k hk => ?_)]
  unfold knV
  split <;> first | rfl | exact absurd rfl hk
theorem sq_pern {P : PD} {H : Nat → HBt} {wh : Nat → Nat} {ask : Nat → Bool} (hA : okA H ask) (hw : ∀ b, b < 8 → wh b < 8) (hP : okPD P) (ha : anB (fun b => ask (wh b)) P.2.1 = false) {d e : Nat} (h : sqd P H wh d = sqd P H wh e) : ∀ j, sqd P H wh (d + j) = sqd P H wh (e + j)
  | 0 => h
  | j + 1 => sq_per hA hw hP ha (sq_pern hA hw hP ha h j)
/-- Days that are as they should be -/
def DOK (P : PD) (H : Nat → HBt) (wh : Nat → Nat) (ask : Nat → Bool) (dd r : Nat) (m : pMI) (l : pML) : Prop :=
  clP m P ∧ clHb m H ∧ m 17 5 = mkB ask ∧ (∀ b, b < 8 → m (dd + 1) b = nI (wh b) ∧ wh b < 8) ∧ (∀ i, i < 8 → m (dd + 11) i = nI i) ∧ m (dd + 5) 10 = nI 0 ∧ m dd 7 = nI r ∧ r ≤ 200 ∧
  (∀ d, d < r → l (dd + 3) d = pkL (sqd P H wh d) P.2.1 ∧ m (dd + 4) d = mkN (seaB (DDd P H wh d)) P.2.1) ∧
  ∃ rd f, m dd 9 = nI rd ∧ rd ≤ 200 ∧ (rd = 0 → (0 < r → CDY m (dd + 5) P (sqd P H wh (r - 1)) (DDd P H wh (r - 1))) ∧ (anB (fun b => ask (wh b)) P.2.1 = false → ∀ d, d < r → ∀ e, e < d → sqd P H wh e ≠ sqd P H wh d)) ∧
    (0 < rd → anB (fun b => ask (wh b)) P.2.1 = false ∧ m dd 8 = nI f ∧ f + rd < r ∧ sqd P H wh (f + rd) = sqd P H wh f ∧ ∀ d, d < f + rd → ∀ e, e < d → sqd P H wh e ≠ sqd P H wh d)
def mnW (P : PD) (H : Nat → HBt) (wh : Nat → Nat) (dd d : Nat) (m : pMI) : pMI := if d = 0 then (fun i j => if i = dd + 2 then va_cpy (m 6) (m (dd + 2)) 0 0 8 j else m i j) else lpS (nmS (dd + 5) (dd + 1) (dd + 2) H) 0 P.2.1 (stC m (nI (fcN (sqd P H wh (d - 1)) P.2.1)) (m (dd + 5) 14) (nI d))
def ruW (P : PD) (H : Nat → HBt) (wh : Nat → Nat) (dd d : Nat) (m : pMI) : pMI := wC (dd + 5) P.2.1 (runC (dd + 5) P.1 P.2.1 P.2.2.1 0 0 (pF P) (pT P) (sqd P H wh d) id (nI P.2.2.2.1) (mnW P H wh dd d m))
def seW (P : PD) (H : Nat → HBt) (wh : Nat → Nat) (dd d : Nat) (m : pMI) : pMI := up2 (ruW P H wh dd d m) (dd + 4) d (mkN (fun b => !decide (ruW P H wh dd d m (dd + 5 + 1) (b * 8 + 5) ≤ 0)) P.2.1)
def rcS (P : PD) (H : Nat → HBt) (wh : Nat → Nat) (ask : Nat → Bool) (dd d : Nat) (s : pMI × pML) : pMI × pML :=
  if s.1 dd 9 = nI 0 then (up2 (srW dd (anB (fun b => ask (wh b)) P.2.1) (up2 s.2 (dd + 3) d (pkL (sqd P H wh d) P.2.1)) d (seW P H wh dd d s.1)) dd 7 (nI (d + 1)), up2 s.2 (dd + 3) d (pkL (sqd P H wh d) P.2.1))
  else (up2 (up2 s.1 (dd + 4) d (s.1 (dd + 4) (d - uN (s.1 dd 9)))) dd 7 (nI (d + 1)), up2 s.2 (dd + 3) d (s.2 (dd + 3) (d - uN (s.1 dd 9))))
theorem cpy_in {u v : Nat → Int32} {j : Nat} (h : j < 8) : va_cpy u v 0 0 8 j = u j := by
  unfold va_cpy
  rw [if_pos (by omega)]
  congr 1
  omega
theorem mn_ok {P : PD} {H : Nat → HBt} {wh : Nat → Nat} {ask : Nat → Bool} {dd d : Nat} {m : pMI} {l : pML} (hP : okPD P) (hH : okH H) (hdd : dd = 27 ∨ dd = 42) (hD : DOK P H wh ask dd d m l) (h0 : m dd 9 = nI 0) : (∀ b, b < P.2.1 → mnW P H wh dd d m (dd + 2) b = nI (sqd P H wh d b)) ∧ frN (dd + 2) m (mnW P H wh dd d m) := by
  obtain ⟨h1, h2, h3, h4, h5, h6, h7, h8, h9, rd, f, h10, h11, h12, h13⟩ := hD
  have hrd : rd = 0 := (nI_z (by omega)).mp (h10.symm.trans h0)
  have hG8 := hP.2.1
  unfold mnW
  by_cases hd : d = 0
  · rw [if_pos hd]
    refine ⟨fun b hb => ?_, fun i _ _ _ h => ?_, fun j _ => ?_⟩
    · rw [if_pos rfl, cpy_in (by omega), (h1.2.2.2.2.2.2 b hb).1, hd]
      show _ = nI (nrm P.2.1 (fun b => P.2.2.2.2.2.2 b 0) b)
      rw [nrm_i hb]
    · funext j; exact if_neg h
    · exact if_neg (by omega)
  · rw [if_neg hd]
    have hC := (h12 hrd).1 (by omega)
    obtain ⟨q0, _, _, _, _, _, q6⟩ := nm_res (t := dd + 5) (w := dd + 1) (hv := dd + 2) (d := d) hP hH h1 hC (fun b hb => h4 b (by omega)) (by omega) (by omega) P.2.1 (Nat.le_refl _)
    refine ⟨fun b hb => ?_, q0⟩
    rw [q6 b hb]
    have e : d = d - 1 + 1 := by omega
    conv => rhs; rw [e]
    rw [sqd_s hb, ← e]
theorem ru_ok (Γ : pTG) (g : pGG) (ml : pML) (hSh : Sh g) {P : PD} {H : Nat → HBt} {wh : Nat → Nat} {ask : Nat → Bool} {dd d : Nat} {m : pMI} {l : pML} (hC : ShC g (dd + 5)) (hkv : g.2.1 (dd + 2) = (20, 8)) (hP : okPD P) (hH : okH H) (hdd : dd = 27 ∨ dd = 42) (hD : DOK P H wh ask dd d m l) (h0 : m dd 9 = nI 0) :
    cV Γ 5 mX2_run [.ref (dd + 5), .ref (dd + 2), .int (nI P.2.2.2.1)] g (mnW P H wh dd d m) ml (ruW P H wh dd d m) ml ∧ CDY (ruW P H wh dd d m) (dd + 5) P (sqd P H wh d) (DDd P H wh d) ∧ frT (dd + 5) (mnW P H wh dd d m) (ruW P H wh dd d m) := by
  obtain ⟨a1, a2⟩ := mn_ok hP hH hdd hD h0
  obtain ⟨h1, h2, h3, h4, h5, h6, h7, h8, h9, _⟩ := hD
  have hr : ∀ i, i ≠ 20 → i ≠ 21 → i ≠ 17 → i ≠ dd + 2 → mnW P H wh dd d m i = m i := a2.1
  have hG8 := hP.2.1
  obtain ⟨b1, b2, b3⟩ := c_runP Γ g (mnW P H wh dd d m) ml hSh (dd + 5) hC (by omega) P hP (clP_row (fun i h1 h2 => hr i (by omega) (by omega) (by omega) (by omega)) h1) (dd + 2) 0 0 P.2.2.2.1 (sqd P H wh d) id id (okO_id hP.2.1) (by rw [if_neg (by omega), if_neg (by omega)]) hkv (by omega) (fun b hb => ⟨a1 b hb, sqd_lt hP d b⟩) (by rw [hr (dd + 5) (by omega) (by omega) (by omega) (by omega), h6, decide_eq_false (by omega)]; rfl) (fun i hi => by rw [hr (dd + 5 + 6) (by omega) (by omega) (by omega) (by omega)]; exact h5 i (by omega)) ⟨hP.2.2.2.1, hP.2.2.2.2.1⟩
  exact ⟨b1, cdy_of b2, frT_of b3⟩
theorem dok_step (Γ : pTG) (g : pGG) (hSh : Sh g) {P : PD} {H : Nat → HBt} {wh : Nat → Nat} {ask : Nat → Bool} {dd d : Nat} {m : pMI} {l : pML} (hC : ShC g (dd + 5)) (hkv : g.2.1 (dd + 2) = (20, 8)) (hP : okPD P) (hH : okH H) (hA : okA H ask) (hdd : dd = 27 ∨ dd = 42) (hd : d < 200) (hD : DOK P H wh ask dd d m l) :
    DOK P H wh ask dd (d + 1) (rcS P H wh ask dd d (m, l)).1 (rcS P H wh ask dd d (m, l)).2 := by
  unfold rcS
  dsimp only
  by_cases h0 : m dd 9 = nI 0
  · rw [if_pos h0]
    dsimp only
    obtain ⟨_, a2⟩ := mn_ok hP hH hdd hD h0
    obtain ⟨_, b2, b3⟩ := ru_ok Γ g l hSh hC hkv hP hH hdd hD h0
    obtain ⟨h1, h2, h3, h4, h5, h6, h7, h8, h9, rd, f, h10, h11, h12, h13⟩ := hD
    have hrd : rd = 0 := (nI_z (by omega)).mp (h10.symm.trans h0)
    have hG8 := hP.2.1
    have hru : ∀ i, i ≠ 20 → i ≠ 21 → i ≠ 17 → i ≠ dd + 2 → (i < dd + 5 ∨ dd + 14 < i ∨ i = dd + 11) → ruW P H wh dd d m i = m i := fun i p1 p2 p3 p4 p5 => (b3.1 i (by omega)).trans (a2.1 i p1 p2 p3 p4)
    have hr17 : ruW P H wh dd d m 17 5 = m 17 5 := by rw [b3.1 17 (by omega)]; exact a2.2 5 (by omega)
    have hrt : ruW P H wh dd d m (dd + 5) 10 = m (dd + 5) 10 := by rw [b3.2 10 (by omega), a2.1 (dd + 5) (by omega) (by omega) (by omega) (by omega)]
    have hsea : mkN (fun b => !decide (ruW P H wh dd d m (dd + 5 + 1) (b * 8 + 5) ≤ 0)) P.2.1 = mkN (seaB (DDd P H wh d)) P.2.1 := mkN_eq (fun b hb => by
      obtain ⟨_, _, _, _, _, c5, _⟩ := b2.1 b hb
      rw [c5]; rfl)
    generalize hm2 : ruW P H wh dd d m = m2 at b2 hru hr17 hrt hsea
    have e3 : seW P H wh dd d m = up2 m2 (dd + 4) d (mkN (seaB (DDd P H wh d)) P.2.1) := by
      unfold seW; rw [hm2, hsea]
    rw [e3]
    -- what stands whatever seekRound does
    have key : ∀ x : pMI, (∀ i, i ≠ dd → x i = up2 m2 (dd + 4) d (mkN (seaB (DDd P H wh d)) P.2.1) i) → clP (up2 x dd 7 (nI (d + 1))) P ∧ clHb (up2 x dd 7 (nI (d + 1))) H ∧ up2 x dd 7 (nI (d + 1)) 17 5 = mkB ask ∧ (∀ b, b < 8 → up2 x dd 7 (nI (d + 1)) (dd + 1) b = nI (wh b) ∧ wh b < 8) ∧ (∀ i, i < 8 → up2 x dd 7 (nI (d + 1)) (dd + 11) i = nI i) ∧ up2 x dd 7 (nI (d + 1)) (dd + 5) 10 = nI 0 ∧ up2 x dd 7 (nI (d + 1)) dd 7 = nI (d + 1) ∧ d + 1 ≤ 200 ∧ (∀ e, e < d + 1 → up2 l (dd + 3) d (pkL (sqd P H wh d) P.2.1) (dd + 3) e = pkL (sqd P H wh e) P.2.1 ∧ up2 x dd 7 (nI (d + 1)) (dd + 4) e = mkN (seaB (DDd P H wh e)) P.2.1) ∧ CDY (up2 x dd 7 (nI (d + 1))) (dd + 5) P (sqd P H wh d) (DDd P H wh d) := fun x hx => by
      have hx2 : ∀ i, i ≠ dd → i ≠ dd + 4 → up2 x dd 7 (nI (d + 1)) i = m2 i := fun i p q => by rw [up2_row p, hx i p, up2_row q]
      have hxm : ∀ i, i ≠ dd → i ≠ dd + 4 → i ≠ 20 → i ≠ 21 → i ≠ 17 → i ≠ dd + 2 → (i < dd + 5 ∨ dd + 14 < i ∨ i = dd + 11) → up2 x dd 7 (nI (d + 1)) i = m i := fun i p q p1 p2 p3 p4 p5 => (hx2 i p q).trans (hru i p1 p2 p3 p4 p5)
      refine ⟨clP_row (fun i p q => hxm i (by omega) (by omega) (by omega) (by omega) (by omega) (by omega) (by omega)) h1, clHb_row (hxm 18 (by omega) (by omega) (by omega) (by omega) (by omega) (by omega) (by omega)) (hxm 19 (by omega) (by omega) (by omega) (by omega) (by omega) (by omega) (by omega)) h2, ?_, ?_, ?_, ?_, up2_s, by omega, fun e he => ⟨?_, ?_⟩, ?_⟩
      · rw [hx2 17 (by omega) (by omega), hr17]; exact h3
      · rw [hxm (dd + 1) (by omega) (by omega) (by omega) (by omega) (by omega) (by omega) (by omega)]; exact h4
      · rw [hxm (dd + 11) (by omega) (by omega) (by omega) (by omega) (by omega) (by omega) (by omega)]; exact h5
      · rw [hx2 (dd + 5) (by omega) (by omega), hrt]; exact h6
      · by_cases hed : e = d
        · subst hed; rw [up2_s]
        · rw [up2_n hed]; exact (h9 e (by omega)).1
      · rw [up2_row (by omega), hx (dd + 4) (by omega)]
        by_cases hed : e = d
        · subst hed; rw [up2_s]
        · rw [up2_n hed, hru (dd + 4) (by omega) (by omega) (by omega) (by omega) (by omega)]; exact (h9 e (by omega)).2
      · refine cdy_row ?_ ?_ ?_ ?_ ?_ b2
        · exact hx2 (dd + 5 + 1) (by omega) (by omega)
        · exact hx2 (dd + 5 + 2) (by omega) (by omega)
        · rw [hx2 (dd + 5) (by omega) (by omega)]
        · exact hx2 (dd + 5 + 8) (by omega) (by omega)
        · exact hx2 (dd + 5 + 9) (by omega) (by omega)
    have hd9 : ∀ j, m2 dd j = m dd j := fun j => by rw [hru dd (by omega) (by omega) (by omega) (by omega) (by omega)]
    unfold srW
    cases han : anB (fun b => ask (wh b)) P.2.1 with
    | true =>
      rw [if_pos rfl]
      obtain ⟨k1, k2, k3, k4, k5, k6, k7, k8, k9, k10⟩ := key (up2 m2 (dd + 4) d (mkN (seaB (DDd P H wh d)) P.2.1)) (fun _ _ => rfl)
      exact ⟨k1, k2, k3, k4, k5, k6, k7, k8, k9, 0, 0, by rw [up2_n (by omega), up2_row (by omega), hd9]; exact h0, by omega, fun _ => ⟨fun _ => k10, fun q => (by rw [han] at q; cases q)⟩, fun q => absurd q (by omega)⟩
    | false =>
      rw [if_neg (by decide)]
      have hne : ∀ e, e < d → (up2 l (dd + 3) d (pkL (sqd P H wh d) P.2.1) (dd + 3) e = up2 l (dd + 3) d (pkL (sqd P H wh d) P.2.1) (dd + 3) d ↔ sqd P H wh e = sqd P H wh d) := fun e he => by
        rw [up2_n (by omega), up2_s, (h9 e he).1]
        refine ⟨fun q => sqd_ext (pk_inj hP.2.1 (fun b _ => sqd_lt hP e b) (fun b _ => sqd_lt hP d b) q), fun q => by rw [q]⟩
      cases hfe : fE (fun e => decide (up2 l (dd + 3) d (pkL (sqd P H wh d) P.2.1) (dd + 3) e = up2 l (dd + 3) d (pkL (sqd P H wh d) P.2.1) (dd + 3) d)) d with
      | none =>
        dsimp only
        obtain ⟨k1, k2, k3, k4, k5, k6, k7, k8, k9, k10⟩ := key (up2 m2 (dd + 4) d (mkN (seaB (DDd P H wh d)) P.2.1)) (fun _ _ => rfl)
        refine ⟨k1, k2, k3, k4, k5, k6, k7, k8, k9, 0, 0, by rw [up2_n (by omega), up2_row (by omega), hd9]; exact h0, by omega, fun _ => ⟨fun _ => k10, fun _ e1 he1 e2 he2 => ?_⟩, fun q => absurd q (by omega)⟩
        by_cases hed : e1 = d
        · subst hed
          intro q
          have := fE_n.mp hfe e2 he2
          exact absurd ((hne e2 he2).mpr q) (of_decide_eq_false this)
        · exact (h12 hrd).2 han e1 (by omega) e2 he2
      | some e =>
        dsimp only
        obtain ⟨g1, g2, g3⟩ := fE_i hfe
        obtain ⟨k1, k2, k3, k4, k5, k6, k7, k8, k9, k10⟩ := key (up2 (up2 (up2 m2 (dd + 4) d (mkN (seaB (DDd P H wh d)) P.2.1)) dd 8 (nI e)) dd 9 (nI (d - e))) (fun i hi => by rw [up2_row hi, up2_row hi])
        refine ⟨k1, k2, k3, k4, k5, k6, k7, k8, k9, d - e, e, by rw [up2_n (by omega), up2_s], by omega, fun q => absurd q (by omega), fun _ => ⟨han, by rw [up2_n (by omega), up2_n (by omega), up2_s], by omega, ?_, fun e1 he1 e2 he2 => ?_⟩⟩
        · rw [show e + (d - e) = d by omega]
          exact ((hne e g1).mp (of_decide_eq_true g2)).symm
        · exact (h12 hrd).2 han e1 (by omega) e2 he2
  · rw [if_neg h0]
    dsimp only
    obtain ⟨h1, h2, h3, h4, h5, h6, h7, h8, h9, rd, f, h10, h11, h12, h13⟩ := hD
    have hrd : 0 < rd := by
      apply Decidable.byContradiction
      intro q
      exact h0 (by rw [h10, show rd = 0 by omega])
    obtain ⟨r1, r2, r3, r4, r5⟩ := h13 hrd
    rw [h10, uN_nI (by omega)]
    have hsq : sqd P H wh (d - rd) = sqd P H wh d := by
      have := sq_pern hA (fun b hb => (h4 b hb).2) hP r1 r4 (d - (f + rd))
      rw [show f + rd + (d - (f + rd)) = d by omega, show f + (d - (f + rd)) = d - rd by omega] at this
      exact this.symm
    have hx : ∀ i, i ≠ dd → i ≠ dd + 4 → up2 (up2 m (dd + 4) d (m (dd + 4) (d - rd))) dd 7 (nI (d + 1)) i = m i := fun i p q => by rw [up2_row p, up2_row q]
    refine ⟨clP_row (fun i p q => hx i (by omega) (by omega)) h1, clHb_row (hx 18 (by omega) (by omega)) (hx 19 (by omega) (by omega)) h2, ?_, ?_, ?_, ?_, up2_s, by omega, fun e he => ⟨?_, ?_⟩, rd, f, ?_, h11, fun q => absurd q (by omega), fun _ => ⟨r1, ?_, by omega, r4, r5⟩⟩
    · rw [hx 17 (by omega) (by omega)]; exact h3
    · rw [hx (dd + 1) (by omega) (by omega)]; exact h4
    · rw [hx (dd + 11) (by omega) (by omega)]; exact h5
    · rw [hx (dd + 5) (by omega) (by omega)]; exact h6
    · by_cases hed : e = d
      · subst hed; rw [up2_s, (h9 (e - rd) (by omega)).1, hsq]
      · rw [up2_n hed]; exact (h9 e (by omega)).1
    · rw [up2_row (by omega)]
      by_cases hed : e = d
      · subst hed; rw [up2_s, (h9 (e - rd) (by omega)).2]; unfold DDd; rw [hsq]
      · rw [up2_n hed]; exact (h9 e (by omega)).2
    · rw [up2_n (by omega), up2_row (by omega)]; exact h10
    · rw [up2_n (by omega), up2_row (by omega)]; exact r2

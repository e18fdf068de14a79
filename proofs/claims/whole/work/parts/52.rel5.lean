theorem nodup_len : ∀ (n : Nat) (L : List Nat), L.Nodup → (∀ z, z ∈ L → z < n) → L.length ≤ n
  | 0, L, _, h => by
    cases L with
    | nil => exact Nat.le_refl _
    | cons a L => exact absurd (h a List.mem_cons_self) (by omega)
  | n + 1, L, hd, h => by
    by_cases hn : n ∈ L
    · have h1 := nodup_len n (L.erase n) (hd.erase n) (fun z hz => by
        have z1 := hd.mem_erase_iff.mp hz
        have := h z z1.2
        have := z1.1
        omega)
      rw [List.length_erase_of_mem hn] at h1
      omega
    · have h1 := nodup_len n L hd (fun z hz => by
        have := h z hz
        have : z ≠ n := fun e => hn (e ▸ hz)
        omega)
      omega
section REL5
variable {t nC nG : Nat} {m n : pMI} {F T cm rk ord : Nat → Nat} {h e hb : Nat} {s : DS} {y : CS} {w w' : Nat → Option Nat} {Q : List Nat}
def QR (nG : Nat) (rk : Nat → Nat) (w : Nat → Option Nat) (hb : Nat) (Q : List Nat) : Prop := (∀ z, z ∈ Q ↔ z < nG ∧ ∃ v, w z = some v ∧ v < hb) ∧ Q.Pairwise (fun a b => ahead w rk a b = true)
theorem ahead_asymm {a b : Nat} (h : ahead w rk a b = true) : ahead w rk b a = false := by
  unfold ahead at h ⊢
  simp only [Bool.or_eq_true, Bool.and_eq_true, decide_eq_true_eq] at h
  simp only [Bool.or_eq_false_iff, Bool.and_eq_false_iff, decide_eq_false_iff_not]
  omega
theorem qr_nodup (hQ : QR nG rk w hb Q) : Q.Nodup := by
  refine hQ.2.imp (fun {a b} h e => ?_)
  subst e
  have := ahead_asymm h
  rw [h] at this
  cases this
theorem qr_len (h8 : nG ≤ 8) (hQ : QR nG rk w hb Q) : Q.length ≤ 8 := Nat.le_trans (nodup_len nG Q (qr_nodup hQ) (fun z hz => ((hQ.1 z).mp hz).1)) h8
theorem ahead_congr {a b : Nat} (ha : w' a = w a) (hb : w' b = w b) : ahead w' rk a b = ahead w rk a b := by
  unfold ahead wvl; rw [ha, hb]
/-- some begin to wait later on -/
theorem qr_set (hw : ∀ z, z < nG → w' z = w z ∨ (w z = none ∧ ∃ v, hb ≤ v ∧ w' z = some v)) (hQ : QR nG rk w hb Q) : QR nG rk w' hb Q := by
  have hin : ∀ z, z ∈ Q → w' z = w z := fun z hz => by
    obtain ⟨h1, v, h2, _⟩ := (hQ.1 z).mp hz
    rcases hw z h1 with h3 | h3
    · exact h3
    · rw [h2] at h3; cases h3.1
  refine ⟨fun z => ⟨fun hz => ?_, fun hz => ?_⟩, ?_⟩
  · obtain ⟨h1, v, h2, h3⟩ := (hQ.1 z).mp hz
    exact ⟨h1, v, (hin z hz).trans h2, h3⟩
  · obtain ⟨h1, v, h2, h3⟩ := hz
    refine (hQ.1 z).mpr ⟨h1, v, ?_, h3⟩
    rcases hw z h1 with h4 | ⟨_, u, h5, h6⟩
    · rw [← h4]; exact h2
    · rw [h6] at h2; have := Option.some.inj h2; omega
  · exact hQ.2.imp_of_mem (fun ha hb h => by rw [ahead_congr (hin _ ha) (hin _ hb)]; exact h)
/-- one waits no more -/
theorem qr_rm {b : Nat} (hw : ∀ z, z ≠ b → w' z = w z) (hb0 : w' b = none) (hQ : QR nG rk w hb Q) : QR nG rk w' hb (Q.filter (fun z => z != b)) := by
  refine ⟨fun z => ⟨fun hz => ?_, fun hz => ?_⟩, ?_⟩
  · obtain ⟨hz1, hz2⟩ := List.mem_filter.mp hz
    have hzb : z ≠ b := by simpa using hz2
    obtain ⟨h1, v, h2, h3⟩ := (hQ.1 z).mp hz1
    exact ⟨h1, v, (hw z hzb).trans h2, h3⟩
  · obtain ⟨h1, v, h2, h3⟩ := hz
    have hzb : z ≠ b := fun e => by rw [e, hb0] at h2; cases h2
    exact List.mem_filter.mpr ⟨(hQ.1 z).mpr ⟨h1, v, (hw z hzb).symm.trans h2, h3⟩, by simpa using hzb⟩
  · refine (hQ.2.filter _).imp_of_mem (fun {a b'} ha hb' h => ?_)
    have h1 : a ≠ b := by have := (List.mem_filter.mp ha).2; simpa using this
    have h2 : b' ≠ b := by have := (List.mem_filter.mp hb').2; simpa using this
    rw [ahead_congr (hw _ h1) (hw _ h2)]; exact h
theorem flt_id {b : Nat} (hb : b ∉ Q) : Q.filter (fun z => z != b) = Q := by
  rw [List.filter_eq_self]
  intro z hz
  simp only [bne_iff_ne, ne_eq]
  intro e; subst e; exact hb hz
/-- ranks of guests are less than how many there are -/
theorem rk_lt (h8 : nG ≤ 8) (hor : ∀ q, q < nG → ord q < nG ∧ rk (ord q) = q) (hinj : ∀ b, b < nG → ord (rk b) = b) {b : Nat} (hb : b < nG) : rk b < nG := by
  apply Decidable.byContradiction
  intro hr
  have hnd : ((List.range nG).map ord).Nodup := by
    refine List.Pairwise.map ord ?_ (List.nodup_range.imp_of_mem (fun {a c} ha hc h => (⟨List.mem_range.mp ha, List.mem_range.mp hc, h⟩ : a < nG ∧ c < nG ∧ a ≠ c)))
    intro a c hac e
    have h1 := (hor a hac.1).2
    have h2 := (hor c hac.2.1).2
    rw [e] at h1
    exact hac.2.2 (h1.symm.trans h2)
  have hnb : b ∉ (List.range nG).map ord := fun hz => by
    obtain ⟨q, hq, hqe⟩ := List.mem_map.mp hz
    have h1 := (hor q (List.mem_range.mp hq)).2
    rw [hqe] at h1
    exact hr (by rw [h1]; exact List.mem_range.mp hq)
  have := nodup_len nG (b :: (List.range nG).map ord) (List.nodup_cons.mpr ⟨hnb, hnd⟩) (fun z hz => by
    rcases List.mem_cons.mp hz with hz | hz
    · rw [hz]; exact hb
    · obtain ⟨q, hq, hqe⟩ := List.mem_map.mp hz
      rw [← hqe]; exact (hor q (List.mem_range.mp hq)).1)
  rw [List.length_cons, List.length_map, List.length_range] at this
  omega
/-- the queue while those of this half come into it -/
def QA (nG : Nat) (rk : Nat → Nat) (w : Nat → Option Nat) (h k : Nat) (Q : List Nat) : Prop := (∀ z, z ∈ Q ↔ z < nG ∧ ∃ v, w z = some v ∧ (v < h ∨ (v = h ∧ rk z < k))) ∧ Q.Pairwise (fun a b => ahead w rk a b = true)
theorem qa_nodup {k : Nat} (hQ : QA nG rk w h k Q) : Q.Nodup := by
  refine hQ.2.imp (fun {a b} h e => ?_)
  subst e
  have := ahead_asymm h
  rw [h] at this
  cases this
theorem qa_loop (h8 : nG ≤ 8) (hor : ∀ q, q < nG → ord q < nG ∧ rk (ord q) = q) (hinj : ∀ b, b < nG → ord (rk b) = b) (hw : ∀ b, b < nG → y.2.2.2.1 5 b = w b) (hQ : QR nG rk w h y.2.2.2.2.2.1) :
    ∀ k, k ≤ nG → QA nG rk w h k (lpS (apS t nG ord h) 0 k y).2.2.2.2.2.1 ∧ (lpS (apS t nG ord h) 0 k y).2.2.2.1 = y.2.2.2.1 ∧ (lpS (apS t nG ord h) 0 k y).2.1 = y.2.1 ∧ (lpS (apS t nG ord h) 0 k y).2.2.1 = y.2.2.1 ∧ (lpS (apS t nG ord h) 0 k y).2.2.2.2.1 = y.2.2.2.2.1 ∧ (lpS (apS t nG ord h) 0 k y).2.2.2.2.2.2.1 = y.2.2.2.2.2.2.1 ∧ (lpS (apS t nG ord h) 0 k y).2.2.2.2.2.2.2 = y.2.2.2.2.2.2.2 ∧ (∀ i, i ≠ t + 7 → (lpS (apS t nG ord h) 0 k y).1 i = y.1 i)
  | 0, _ => by
    refine ⟨⟨fun z => ⟨fun hz => ?_, fun hz => ?_⟩, hQ.2⟩, rfl, rfl, rfl, rfl, rfl, rfl, fun _ _ => rfl⟩
    · obtain ⟨h1, v, h2, h3⟩ := (hQ.1 z).mp hz
      exact ⟨h1, v, h2, Or.inl h3⟩
    · obtain ⟨h1, v, h2, h3⟩ := hz
      exact (hQ.1 z).mpr ⟨h1, v, h2, by omega⟩
  | k + 1, hk => by
    obtain ⟨ih, i1, i2, i3, i4, i5, i6, i7⟩ := qa_loop h8 hor hinj hw hQ k (by omega)
    rw [lpS_snoc, Nat.zero_add]
    generalize lpS (apS t nG ord h) 0 k y = x at ih i1 i2 i3 i4 i5 i6 i7 ⊢
    obtain ⟨ho, hr⟩ := hor k (by omega)
    have hwk : x.2.2.2.1 5 (ord k) = w (ord k) := by rw [i1]; exact hw _ ho
    unfold apS
    rw [hwk]
    have hlen : w (ord k) = some h → x.2.2.2.2.2.1.length < 8 := fun hz => by
      have hnb : ord k ∉ x.2.2.2.2.2.1 := fun hm => by
        obtain ⟨_, v, h2, h3⟩ := (ih.1 _).mp hm
        rw [hz] at h2
        have := Option.some.inj h2
        omega
      have := nodup_len nG (ord k :: x.2.2.2.2.2.1) (List.nodup_cons.mpr ⟨hnb, qa_nodup ih⟩) (fun z hz => by
        rcases List.mem_cons.mp hz with hz | hz
        · rw [hz]; exact ho
        · exact ((ih.1 z).mp hz).1)
      rw [List.length_cons] at this
      omega
    by_cases hz : w (ord k) = some h
    · rw [if_pos ⟨hz, hlen hz⟩]
      refine ⟨⟨fun z => ⟨fun hm => ?_, fun hm => ?_⟩, ?_⟩, i1, i2, i3, i4, i5, i6, fun i hi => ?_⟩
      · rcases List.mem_append.mp hm with hm | hm
        · obtain ⟨h1, v, h2, h3⟩ := (ih.1 z).mp hm
          exact ⟨h1, v, h2, by omega⟩
        · rw [List.mem_singleton.mp hm]
          exact ⟨ho, h, hz, Or.inr ⟨rfl, by omega⟩⟩
      · obtain ⟨h1, v, h2, h3⟩ := hm
        by_cases hrk : rk z = k
        · exact List.mem_append.mpr (Or.inr (List.mem_singleton.mpr (by rw [← hrk, hinj z h1])))
        · exact List.mem_append.mpr (Or.inl ((ih.1 z).mpr ⟨h1, v, h2, by omega⟩))
      · refine List.pairwise_append.mpr ⟨ih.2, List.pairwise_singleton _ _, fun a ha b hb => ?_⟩
        rw [List.mem_singleton.mp hb]
        obtain ⟨h1, v, h2, h3⟩ := (ih.1 a).mp ha
        unfold ahead wvl
        rw [h2, hz]
        simp only [Option.getD_some, Bool.or_eq_true, Bool.and_eq_true, decide_eq_true_eq]
        omega
      · rw [← i7 i hi]
        funext j
        show (if i = t + 7 then _ else x.1 i j) = _
        rw [if_neg hi]
    · rw [if_neg (fun q => hz q.1)]
      refine ⟨⟨fun z => ⟨fun hm => ?_, fun hm => ?_⟩, ih.2⟩, i1, i2, i3, i4, i5, i6, i7⟩
      · obtain ⟨h1, v, h2, h3⟩ := (ih.1 z).mp hm
        exact ⟨h1, v, h2, by omega⟩
      · obtain ⟨h1, v, h2, h3⟩ := hm
        refine (ih.1 z).mpr ⟨h1, v, h2, ?_⟩
        by_cases hrk : rk z = k
        · have : z = ord k := by rw [← hrk, hinj z h1]
          rw [this] at h2
          rcases h3 with h3 | h3
          · exact Or.inl h3
          · rw [h3.1] at h2; exact absurd h2 hz
        · omega
theorem nw_none {tr : Nat → Bool} : ∀ {k : Nat}, (∀ z, z < k → elig w tr h z = false) → nwM w rk tr h k = none
  | 0, _ => rfl
  | k + 1, hz => by
    rw [nwM_no (hz k (by omega))]
    exact nw_none (fun z hk => hz z (by omega))
theorem nw_head {tr : Nat → Bool} {b : Nat} (hb : elig w tr h b = true) : ∀ {k : Nat}, (∀ z, z < k → elig w tr h z = true → z ≠ b → ahead w rk b z = true) → b < k → nwM w rk tr h k = some b
  | k + 1, hz, hk => by
    unfold nwM
    by_cases e : b = k
    · subst e
      cases hq : nwM w rk tr h b with
      | none => dsimp only; rw [if_pos hb]
      | some a =>
        obtain ⟨h1, h2⟩ := nwM_some hq
        dsimp only
        rw [hb, hz a (by omega) h2 (by omega)]
        rfl
    · rw [nw_head hb (fun z hk => hz z (by omega)) (by omega)]
      dsimp only
      cases he : elig w tr h k with
      | false => rfl
      | true =>
        rw [ahead_asymm (hz k (by omega) he (by omega))]
        rfl
theorem wt_stuck {W : Nat → Nat → Int32} (hf : ∀ c, c < nC → (s.2.1 204 c).isNone = false) : ∀ (f : Nat) (tr : Nat → Bool), wtD W rk nC nG h f tr s = s
  | 0, tr => rfl
  | f + 1, tr => by
    unfold wtD
    cases nwM (s.2.1 196) rk tr h nG with
    | none => rfl
    | some g =>
      dsimp only
      have e1 : trD W nC g h s = s := by
        unfold trD
        rw [bsD_none.mpr hf]
      rw [e1]
      exact wt_stuck hf f _
theorem sit_wf {b c : Nat} : sitD b h c (wfD b none s) = sitD b h c s := by
  unfold sitD wfD
  refine Prod.ext rfl (Prod.ext ?_ rfl)
  dsimp only
  rw [up2_row (show (198 : Nat) ≠ 196 by omega)]
  funext i j
  unfold up2
  by_cases h1 : i = 198 ∧ j = b
  · simp only [if_pos h1]
  · by_cases h2 : i = 196 ∧ j = b
    · simp only [if_neg h1, if_pos h2]
    · simp only [if_neg h1, if_neg h2]
/-- what goes through the seating of those who wait -/
def SWI (t nG : Nat) (cm T : Nat → Nat) (h : Nat) (s0 : DS) (y0 : CS) (s : DS) (y : CS) : Prop :=
  (∀ b, b < nG → s0.2.1 195 b = none → s0.2.1 196 b = none → s.2.1 195 b = none ∧ s.2.1 196 b = none) ∧ s.2.2 = s0.2.2 ∧ y.1 t 14 = y0.1 t 14 ∧ y.2.2.2.2.2.2.2 = y0.2.2.2.2.2.2.2 ∧ (∀ b, y.2.1 b 0 = y0.2.1 b 0) ∧ F29 s0 s ∧ (∀ b, s.2.1 196 b = s0.2.1 196 b ∨ s.2.1 196 b = none)
theorem sw_loop (hL : PL2 t nC nG m n F T h) : ∀ (k : Nat) (s : DS) (y : CS) (f e : Nat) (tr : Nat → Bool), HR t nC nG m n F T h e s y → QR nG rk (s.2.1 196) (h + 1) y.2.2.2.2.2.1 → y.2.2.2.2.2.1.length = k → k ≤ f → e + k < 1000 → (∀ z, z ∈ y.2.2.2.2.2.1 → tr z = false) → LT nG T (h + 1) s →
    HR t nC nG m n F T h (e + k) (wtD (fun g c => wM m F T g h c) rk nC nG h f tr s) (dnS fzC (fsC t nC nG F T h) k y) ∧ QR nG rk ((wtD (fun g c => wM m F T g h c) rk nC nG h f tr s).2.1 196) (h + 1) (dnS fzC (fsC t nC nG F T h) k y).2.2.2.2.2.1 ∧ (mkB (dnS fzC (fsC t nC nG F T h) k y).2.2.2.2.2.2.1 = 0 ∨ (dnS fzC (fsC t nC nG F T h) k y).2.2.2.2.2.1 = []) ∧ SWI t nG cm T h s y (wtD (fun g c => wM m F T g h c) rk nC nG h f tr s) (dnS fzC (fsC t nC nG F T h) k y)
  | 0, s, y, f, e, tr, H, hQ, hl, hf, he, htr, hT => by
    have e0 : y.2.2.2.2.2.1 = [] := List.length_eq_zero_iff.mp hl
    have e1 : wtD (fun g c => wM m F T g h c) rk nC nG h f tr s = s := by
      cases f with
      | zero => rfl
      | succ f =>
        unfold wtD
        rw [nw_none (fun z hz => ?_)]
        unfold elig
        cases hw : s.2.1 196 z with
        | none => rfl
        | some v =>
          have : ¬ (v < h + 1) := fun hv => by
            have := (hQ.1 z).mpr ⟨hz, v, hw, hv⟩
            rw [e0] at this; cases this
          simp; omega
    rw [e1]
    exact ⟨H, hQ, Or.inr e0, fun b _ h1 h2 => ⟨h1, h2⟩, rfl, rfl, rfl, fun _ => rfl, F29_r, fun _ => Or.inl rfl⟩
  | k + 1, s, y, f, e, tr, H, hQ, hl, hf, he, htr, hT => by
    by_cases hz : mkB y.2.2.2.2.2.2.1 = 0
    · have e1 : wtD (fun g c => wM m F T g h c) rk nC nG h f tr s = s := wt_stuck (bsD_none.mp ((fz_eq (W := fun _ => 0) hL H).mp hz)) f tr
      have e2 : dnS fzC (fsC t nC nG F T h) (k + 1) y = y := by unfold dnS; rw [if_pos (show fzC y = true from decide_eq_true hz)]
      rw [e1, e2]
      exact ⟨hr_e (by omega) H, hQ, Or.inl hz, fun b _ h1 h2 => ⟨h1, h2⟩, rfl, rfl, rfl, fun _ => rfl, F29_r, fun _ => Or.inl rfl⟩
    · cases hq : y.2.2.2.2.2.1 with
      | nil => rw [hq] at hl; cases hl
      | cons b L =>
        have hbQ : b ∈ y.2.2.2.2.2.1 := by rw [hq]; exact List.mem_cons_self
        obtain ⟨hb, v, hv, hvh⟩ := (hQ.1 b).mp hbQ
        obtain ⟨g, rfl⟩ : ∃ g, f = g + 1 := ⟨f - 1, by omega⟩
        have hpw := hQ.2
        rw [hq] at hpw
        have hel : elig (s.2.1 196) tr h b = true := by
          unfold elig; rw [hv]; simp [htr b hbQ]; omega
        have hn : nwM (s.2.1 196) rk tr h nG = some b := by
          refine nw_head hel (fun z hz he hzb => ?_) hb
          have hzQ : z ∈ y.2.2.2.2.2.1 := by
            refine (hQ.1 z).mpr ⟨hz, ?_⟩
            unfold elig at he
            cases hw : s.2.1 196 z with
            | none => rw [hw] at he; cases he
            | some u => rw [hw] at he; simp at he; exact ⟨u, rfl, by omega⟩
          rw [hq] at hzQ
          rcases List.mem_cons.mp hzQ with e | e
          · exact absurd e hzb
          · exact (List.pairwise_cons.mp hpw).1 z e
        have hhT : h < T b := by
          apply Decidable.byContradiction
          intro hn
          have := (hT b hb (by omega)).2
          rw [hv] at this; cases this
        have h5 := (hr_v hb hv H.1).2
        have a1 := hr_ew hL hb hv (by omega) H
        have hbne : ∃ c, bsD (fun c => wM m F T b h c) (fun c => (s.2.1 204 c).isNone) nC = some c := by
          cases hbs : bsD (fun c => wM m F T b h c) (fun c => (s.2.1 204 c).isNone) nC with
          | none => exact absurd ((fz_eq hL H).mpr hbs) hz
          | some c => exact ⟨c, rfl⟩
        obtain ⟨c, hc⟩ := hbne
        have hcl := bsD_lt hc
        have hown : s.2.1 204 c = none := Option.isNone_iff_eq_none.mp hcl.2
        have h5' : (wfD b none s).2.1 195 b = none := by unfold wfD; dsimp only; rw [up2_row (by omega)]; exact h5
        have h6' : (wfD b none s).2.1 196 b = none := by unfold wfD; dsimp only; exact up2_s
        have ho' : (wfD b none s).2.1 204 c = none := by unfold wfD; dsimp only; rw [up2_row (by omega)]; exact hown
        have a2 := hr_sit hL (by omega) hb hcl.1 h5' h6' ho' hhT a1
        rw [sit_wf] at a2
        have e2 : fsC t nC nG F T h y = tbC t b h c (ewC t b h v (uqC t nG b y)) := by
          unfold fsC
          rw [hq]
          dsimp only
          have : y.2.2.2.1 5 b = some v := (H.1.1 b hb).2.1.trans hv
          rw [this]
          show btC t nC F T b h (ewC t b h v (uqC t nG b y)) = _
          unfold btC
          have z := best_eq (b := b) hL a1
          have e3 : (fun c => ((wfD b none s).2.1 204 c).isNone) = fun c => (s.2.1 204 c).isNone := by
            funext d; unfold wfD; dsimp only; rw [up2_row (by omega)]
          rw [e3, hc] at z
          rw [z]
        have e4 : wtD (fun g c => wM m F T g h c) rk nC nG h (g + 1) tr s = wtD (fun g c => wM m F T g h c) rk nC nG h g (ud tr b true) (sitD b h c s) := by
          conv => lhs; unfold wtD
          rw [hn]
          dsimp only
          have : trD (fun g c => wM m F T g h c) nC b h s = sitD b h c s := by unfold trD; dsimp only; rw [hc]
          rw [this]
        have e5 : dnS fzC (fsC t nC nG F T h) (k + 1) y = dnS fzC (fsC t nC nG F T h) k (fsC t nC nG F T h y) := by
          conv => lhs; unfold dnS
          rw [if_neg (by unfold fzC; rw [decide_eq_false hz]; decide)]
        have e6 : (tbC t b h c (ewC t b h v (uqC t nG b y))).2.2.2.2.2.1 = L := by
          have : (tbC t b h c (ewC t b h v (uqC t nG b y))).2.2.2.2.2.1 = (ewC t b h v (uqC t nG b y)).2.2.2.2.2.1 := by unfold tbC; split <;> rfl
          rw [this, ewC_q.2.2.1]
          show y.2.2.2.2.2.1.filter (fun z => z != b) = L
          rw [hq]
          refine flt_cons ?_
          rw [← hq]
          exact qr_nodup hQ
        have hw' : ∀ z, z ≠ b → (sitD b h c s).2.1 196 z = s.2.1 196 z := fun z hz => sit_o (Or.inr rfl) hz
        have hwb : (sitD b h c s).2.1 196 b = none := by unfold sitD; dsimp only; rw [up2_row (by omega), up2_s]
        have hQ' : QR nG rk ((sitD b h c s).2.1 196) (h + 1) (tbC t b h c (ewC t b h v (uqC t nG b y))).2.2.2.2.2.1 := by
          have z := qr_rm hw' hwb hQ
          rw [hq, flt_cons (by rw [← hq]; exact qr_nodup hQ)] at z
          rw [e6]; exact z
        have hLT' : LT nG T (h + 1) (sitD b h c s) := fun a ha haT => by
          have hab : a ≠ b := fun e => by subst e; omega
          rw [sit_o (Or.inl rfl) hab, sit_o (Or.inr rfl) hab]
          exact hT a ha haT
        rw [e4, e5, e2]
        have hlL : L.length = k := by rw [hq] at hl; exact Nat.succ.inj hl
        obtain ⟨r1, r2, r3, r4, r5, r6, r7, r8, r9, r10⟩ := sw_loop hL k (sitD b h c s) (tbC t b h c (ewC t b h v (uqC t nG b y))) g (e + 1) (ud tr b true) a2 hQ' (by rw [e6]; exact hlL) (by omega) (by omega) (fun z hz => by
          rw [e6] at hz
          have hzb : z ≠ b := fun e => by
            have := qr_nodup hQ
            rw [hq, List.nodup_cons] at this
            exact this.1 (e ▸ hz)
          rw [ud_n hzb]
          exact htr z (by rw [hq]; exact List.mem_cons_of_mem _ hz)) hLT'
        refine ⟨by rw [show e + (k + 1) = e + 1 + k by omega]; exact r1, r2, r3, fun a ha z1 z2 => ?_, r5, ?_, ?_, fun a => ?_, F29_t sit_29 r9, fun a => ?_⟩
        · have hab : a ≠ b := fun e => by rw [e, hv] at z2; cases z2
          exact r4 a ha (by rw [sit_o (Or.inl rfl) hab]; exact z1) (by rw [sit_o (Or.inr rfl) hab]; exact z2)
        · rw [r6, tbC_1, up2_row (by omega), ewC_q.1 t (by omega)]
          show (if t = t + 7 then _ else y.1 t 14) = _
          rw [if_neg (by omega)]
        · rw [r7]
          have : (tbC t b h c (ewC t b h v (uqC t nG b y))).2.2.2.2.2.2.2 = (ewC t b h v (uqC t nG b y)).2.2.2.2.2.2.2 := by unfold tbC; split <;> rfl
          rw [this, ewC_q.2.2.1]
          rfl
        · rw [r8, tbC_fa, up2_nn (by omega)]
          have e7 : (ewC t b h v (uqC t nG b y)).2.1 a 0 = y.2.1 a 0 := by rw [ewC_q.2.2.2.1, up2_nn (by omega)]; rfl
          split
          · rw [up2_nn (by omega)]; exact e7
          · exact e7
        · by_cases hab : a = b
          · subst hab
            rcases r10 a with q | q
            · exact Or.inr (q.trans hwb)
            · exact Or.inr q
          · rw [← hw' a hab]; exact r10 a
end REL5

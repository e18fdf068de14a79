/-! ===== words ===== -/
/-- the letters of a word, the last one first -/
def wR (B : Nat → Int32) (s : Nat) : Nat → List Nat
  | 0 => []
  | k + 1 => ltN (B (s + k)) :: wR B s k
def codeR : List Nat → Nat
  | [] => 0
  | x :: t => 27 * codeR t + x
theorem codeR_inj : ∀ (u v : List Nat), (∀ x ∈ u, 1 ≤ x ∧ x ≤ 26) → (∀ x ∈ v, 1 ≤ x ∧ x ≤ 26) → codeR u = codeR v → u = v
  | [], [], _, _, _ => rfl
  | [], y :: s, _, hv, h => by
    have := hv y List.mem_cons_self
    unfold codeR at h; omega
  | x :: t, [], hu, _, h => by
    have := hu x List.mem_cons_self
    unfold codeR at h; omega
  | x :: t, y :: s, hu, hv, h => by
    have h1 := hu x List.mem_cons_self
    have h2 := hv y List.mem_cons_self
    unfold codeR at h
    have e1 : x = y := by omega
    have e2 : codeR t = codeR s := by omega
    rw [e1, codeR_inj t s (fun z hz => hu z (List.mem_cons_of_mem _ hz)) (fun z hz => hv z (List.mem_cons_of_mem _ hz)) e2]
theorem codeR_lt : ∀ (u : List Nat), (∀ x ∈ u, 1 ≤ x ∧ x ≤ 26) → codeR u < 27 ^ u.length
  | [], _ => by decide
  | x :: t, h => by
    have h1 := h x List.mem_cons_self
    have ih := codeR_lt t (fun z hz => h z (List.mem_cons_of_mem _ hz))
    unfold codeR
    rw [List.length_cons, Nat.pow_succ]
    omega
theorem wR_len (B : Nat → Int32) (s : Nat) : ∀ k, (wR B s k).length = k
  | 0 => rfl
  | k + 1 => by unfold wR; rw [List.length_cons, wR_len B s k]
theorem wcN_R (B : Nat → Int32) (s : Nat) : ∀ k, wcN B s k = codeR (wR B s k)
  | 0 => rfl
  | k + 1 => by
    show 27 * wcN B s k + _ = 27 * codeR (wR B s k) + _
    rw [wcN_R B s k]
def wL (B : Nat → Int32) (n i : Nat) : List Nat := wR B i (wdT B n i - i)
theorem scF_all {p : Nat → Bool} : ∀ f i k, i ≤ k → k < scF p f i → p k = true
  | 0, i, k, h1, h2 => absurd h2 (by unfold scF; omega)
  | f + 1, i, k, h1, h2 => by
    unfold scF at h2
    cases hz : p i with
    | true =>
      rw [if_pos hz] at h2
      by_cases e : k = i
      · rw [e]; exact hz
      · exact scF_all f (i + 1) k (by omega) h2
    | false => rw [if_neg (by rw [hz]; decide)] at h2; omega
theorem wd_small {B : Nat → Int32} {n i k : Nat} (h : k < wdT B n i - i) : smP B n (i + k) = true := scF_all (n - i) i (i + k) (by omega) (by show i + k < wdT B n i; omega)
theorem wR_ok {B : Nat → Int32} {n i : Nat} : ∀ k, k ≤ wdT B n i - i → ∀ x ∈ wR B i k, 1 ≤ x ∧ x ≤ 26
  | 0, _, x, h => by simp [wR] at h
  | k + 1, hk, x, h => by
    unfold wR at h
    rcases List.mem_cons.mp h with rfl | h
    · obtain ⟨_, h1, h2⟩ := smP_t (wd_small (show k < wdT B n i - i by omega))
      obtain ⟨a, b, _⟩ := ltN_of h1 h2
      exact ⟨a, b⟩
    · exact wR_ok (n := n) k (by omega) x h
theorem wL_ok {B : Nat → Int32} {n i : Nat} : ∀ x ∈ wL B n i, 1 ≤ x ∧ x ≤ 26 := wR_ok _ (Nat.le_refl _)
theorem wL_len {B : Nat → Int32} {n i : Nat} : (wL B n i).length = wdT B n i - i := wR_len _ _ _
theorem wc_iff {B : Nat → Int32} {n i : Nat} {w : List Nat} (hw : ∀ x ∈ w, 1 ≤ x ∧ x ≤ 26) (hl : w.length ≤ 6) : wcV B n i = nI (codeR w) ↔ wL B n i = w := by
  have p6 : (27 : Nat) ^ 6 = 387420489 := by decide
  have bw : codeR w < 387420489 := Nat.lt_of_lt_of_le (codeR_lt w hw) (by rw [← p6]; exact Nat.pow_le_pow_right (by omega) hl)
  unfold wcV
  by_cases h : wdT B n i - i ≤ 6
  · rw [if_pos h, wcN_R]
    have b2 : codeR (wR B i (wdT B n i - i)) < 387420489 := Nat.lt_of_lt_of_le (codeR_lt _ (wR_ok _ (Nat.le_refl _))) (by rw [← p6, wR_len]; exact Nat.pow_le_pow_right (by omega) h)
    rw [nI_eq (by omega) (by omega)]
    exact ⟨fun q => codeR_inj _ _ wL_ok hw q, fun q => by rw [← q]; rfl⟩
  · rw [if_neg h]
    refine ⟨fun q => absurd q (nI_m1' (by omega)), fun q => ?_⟩
    have := wL_len (B := B) (n := n) (i := i)
    rw [q] at this
    omega
/-- the program's own lists of words -/
def wdl (j : Nat) : List (List Nat) := match j with
  | 0 => [[18, 9, 1, 8, 3], [20, 19, 5, 21, 7], [19, 5, 15, 7], [6, 6, 15], [5, 18, 9, 8]]
  | 1 => [[5, 14, 9, 13], [20, 19, 18, 9, 6], [20, 19, 1, 12], [20, 15, 7], [14, 9, 1, 12], [6, 6, 15], [25, 1, 4], [8, 19, 9, 23], [5, 11, 1, 23], [19, 18, 9, 1, 8, 3], [19, 20, 19, 5, 21, 7], [20, 19, 1, 5, 12], [20, 19, 15, 13], [6, 9]]
  | 2 => [[14, 5, 8, 20]]
  | _ => [[5, 19, 12, 5]]
def wst (j : Nat) : List (Nat × Nat) := match j with
  | 0 => [(0, 5), (6, 5), (12, 4), (17, 3), (21, 4)]
  | 1 => [(0, 4), (5, 5), (11, 4), (16, 3), (20, 4), (25, 3), (29, 3), (33, 4), (38, 4), (43, 6), (50, 6), (57, 5), (63, 4), (68, 2)]
  | 2 => [(0, 4)]
  | _ => [(0, 4)]
def wS (j st : Nat) : Nat → List Nat
  | 0 => []
  | k + 1 => ltN (chS j (st + k)) :: wS j st k
theorem wst_len : ∀ j, j < 4 → (wst j).length = (wdl j).length := by decide +kernel
theorem wst_ok : ∀ j, j < 4 → ∀ k, k < (wdl j).length → ((wst j).getD k (0, 0)).1 + ((wst j).getD k (0, 0)).2 ≤ strLen.getD j 0 ∧ (((wst j).getD k (0, 0)).1 + ((wst j).getD k (0, 0)).2 = strLen.getD j 0 ∨ chS j (((wst j).getD k (0, 0)).1 + ((wst j).getD k (0, 0)).2) = nI 32) ∧ tbX j (((wst j).getD k (0, 0)).1 + ((wst j).getD k (0, 0)).2) = (k, ((wst j).getD k (0, 0)).1) ∧ wS j ((wst j).getD k (0, 0)).1 ((wst j).getD k (0, 0)).2 = (wdl j).getD k [] := by decide +kernel
theorem wst_small : ∀ j, j < 4 → ∀ k, k < (wdl j).length → ∀ i, i < ((wst j).getD k (0, 0)).2 → nI 97 ≤ chS j (((wst j).getD k (0, 0)).1 + i) ∧ chS j (((wst j).getD k (0, 0)).1 + i) ≤ nI 122 := by decide +kernel
theorem wst_all : ∀ j, j < 4 → ∀ i, i < strLen.getD j 0 + 1 → (i = strLen.getD j 0 ∨ chS j i = nI 32) → (tbX j i).1 < (wdl j).length ∧ ((wst j).getD (tbX j i).1 (0, 0)).1 = (tbX j i).2 ∧ ((wst j).getD (tbX j i).1 (0, 0)).1 + ((wst j).getD (tbX j i).1 (0, 0)).2 = i := by decide +kernel
theorem wdl_nd : ∀ j, j < 4 → ∀ k, k < (wdl j).length → ∀ q, q < (wdl j).length → (wdl j).getD k [] = (wdl j).getD q [] → k = q := by decide +kernel
theorem wR_S {B : Nat → Int32} {j p st : Nat} : ∀ k, (∀ i, i < k → B (p + i) = chS j (st + i)) → wR B p k = wS j st k
  | 0, _ => rfl
  | k + 1, h => by
    show ltN (B (p + k)) :: wR B p k = ltN (chS j (st + k)) :: wS j st k
    rw [wR_S k (fun i hi => h i (by omega)), h k (by omega)]
theorem S_wR {B : Nat → Int32} {j p st : Nat} : ∀ k, (∀ i, i < k → nI 97 ≤ B (p + i) ∧ B (p + i) ≤ nI 122) → (∀ i, i < k → nI 97 ≤ chS j (st + i) ∧ chS j (st + i) ≤ nI 122) → wR B p k = wS j st k → ∀ i, i < k → B (p + i) = chS j (st + i)
  | 0, _, _, _, i, hi => absurd hi (by omega)
  | k + 1, h1, h2, h, i, hi => by
    have h : ltN (B (p + k)) :: wR B p k = ltN (chS j (st + k)) :: wS j st k := h
    injection h with e1 e2
    by_cases hk : i = k
    · subst hk
      rw [(ltN_of (h1 i (by omega)).1 (h1 i (by omega)).2).2.2, (ltN_of (h2 i (by omega)).1 (h2 i (by omega)).2).2.2, e1]
    · exact S_wR k (fun i hi => h1 i (by omega)) (fun i hi => h2 i (by omega)) e2 i (by omega)
theorem wS_len (j st : Nat) : ∀ k, (wS j st k).length = k
  | 0 => rfl
  | k + 1 => by unfold wS; rw [List.length_cons, wS_len j st k]
theorem alB_t {j : Nat} {B : Nat → Int32} {p st sz : Nat} : alB j B p st sz = true ↔ ∀ i, i < sz → B (p + i) = chS j (st + i) := by
  unfold alB
  rw [Bool.not_eq_true', anB_f]
  exact ⟨fun h i hi => by have := h i hi; simpa using this, fun h i hi => by simpa using h i hi⟩
theorem wh_at {j : Nat} (hj : j < 4) {B : Nat → Int32} {n p k : Nat} (hk : k < (wdl j).length) : whP j B p (wdT B n p - p) (((wst j).getD k (0, 0)).1 + ((wst j).getD k (0, 0)).2) = true ↔ wL B n p = (wdl j).getD k [] := by
  obtain ⟨a1, a2, a3, a4⟩ := wst_ok j hj k hk
  have hs := wst_small j hj k hk
  generalize hst : ((wst j).getD k (0, 0)).1 = st at *
  generalize hle : ((wst j).getD k (0, 0)).2 = le at *
  constructor
  · intro h
    obtain ⟨_, h2, h3⟩ := whP_t h
    rw [a3] at h2 h3
    have h2 : wdT B n p - p = le := by have h2 : wdT B n p - p = st + le - st := h2; omega
    rw [h2] at h3
    show wR B p (wdT B n p - p) = _
    rw [h2, ← a4]
    exact wR_S le (alB_t.mp h3)
  · intro h
    have hl : wdT B n p - p = le := by
      have := congrArg List.length h
      rw [wL_len, ← a4, wS_len] at this
      exact this
    unfold whP
    rw [Bool.and_eq_true, Bool.and_eq_true, Bool.or_eq_true, decide_eq_true_eq, decide_eq_true_eq, decide_eq_true_eq, a3]
    refine ⟨a2, by show wdT B n p - p = st + le - st; omega, ?_⟩
    have h : wR B p (wdT B n p - p) = _ := h
    rw [hl, ← a4] at h
    rw [hl]
    exact alB_t.mpr (S_wR le (fun i hi => (smP_t (wd_small (n := n) (by omega))).2) hs h)
/-- which of a list's words stands here -/
def wIx (j : Nat) (B : Nat → Int32) (n i : Nat) : Option Nat := fE (fun k => decide (wL B n i = (wdl j).getD k [])) (wdl j).length
theorem wIx_s {j k : Nat} {B : Nat → Int32} {n i : Nat} : wIx j B n i = some k → k < (wdl j).length ∧ wL B n i = (wdl j).getD k [] := fun h => by
  obtain ⟨h1, h2, _⟩ := fE_i h
  exact ⟨h1, by simpa using h2⟩
theorem wIx_n {j : Nat} {B : Nat → Int32} {n i : Nat} : wIx j B n i = none → ∀ k, k < (wdl j).length → ¬ wL B n i = (wdl j).getD k [] := fun h k hk => by
  have := fE_n.mp h k hk
  simpa using this
theorem wIx_e {j : Nat} (hj : j < 4) {k : Nat} (hk : k < (wdl j).length) {B : Nat → Int32} {n i : Nat} (h : wL B n i = (wdl j).getD k []) : wIx j B n i = some k := by
  cases hq : wIx j B n i with
  | none => exact absurd h (wIx_n hq k hk)
  | some q =>
    obtain ⟨h1, h2⟩ := wIx_s hq
    rw [wdl_nd j hj q h1 k hk (h2.symm.trans h)]
theorem whN_eq {j : Nat} (hj : j < 4) {B : Nat → Int32} {n p : Nat} : whN j B n p = wIx j B n p := by
  unfold whN
  cases hw : wIx j B n p with
  | none =>
    have := wIx_n hw
    rw [fE_n.mpr (fun i hi => ?_)]
    · rfl
    · cases hq : whP j B p (wdT B n p - p) i with
      | false => rfl
      | true =>
        obtain ⟨h1, h2, h3⟩ := wst_all j hj i hi (whP_t hq).1
        rw [← h3] at hq
        exact absurd ((wh_at hj h1).mp hq) (this _ h1)
  | some k =>
    obtain ⟨hk, hwl⟩ := wIx_s hw
    obtain ⟨a1, a2, a3, a4⟩ := wst_ok j hj k hk
    have hp := (wh_at hj hk (B := B) (n := n) (p := p)).mpr hwl
    rw [fE_s (i := ((wst j).getD k (0, 0)).1 + ((wst j).getD k (0, 0)).2) (fun b hb => ?_) hp (by omega)]
    · show some (tbX j _).1 = some k
      rw [a3]
    · cases hq : whP j B p (wdT B n p - p) b with
      | false => rfl
      | true =>
        obtain ⟨h1, h2, h3⟩ := wst_all j hj b (by omega) (whP_t hq).1
        rw [← h3] at hq
        have e := wdl_nd j hj _ h1 k hk (((wh_at hj h1).mp hq).symm.trans hwl)
        rw [e] at h3
        omega
theorem wL_nil {B : Nat → Int32} {n i : Nat} (h : smP B n i = false) : wL B n i = [] := by
  unfold wL
  rw [show wdT B n i = i from scF_id h _, Nat.sub_self]
  rfl
theorem wIx_nil {j : Nat} (hj : j < 4) {B : Nat → Int32} {n i : Nat} (h : smP B n i = false) : wIx j B n i = none := by
  cases hq : wIx j B n i with
  | none => rfl
  | some k =>
    obtain ⟨h1, h2⟩ := wIx_s hq
    rw [wL_nil h] at h2
    have : ∀ j, j < 4 → ∀ k, k < (wdl j).length → ¬ [] = (wdl j).getD k [] := by decide +kernel
    exact absurd h2 (this j hj k h1)
theorem sm_of_by {B : Nat → Int32} {n i : Nat} (h : ¬ (nI 97 ≤ byT B n i ∧ byT B n i ≤ nI 122)) : smP B n i = false := by
  rw [← byT_sm]
  cases hq : (decide (nI 97 ≤ byT B n i) && decide (byT B n i ≤ nI 122)) with
  | false => rfl
  | true => rw [Bool.and_eq_true, decide_eq_true_eq, decide_eq_true_eq] at hq; exact absurd hq h
theorem sm_dg {B : Nat → Int32} {n i : Nat} (h : dgP B n i = true) : smP B n i = false := by
  obtain ⟨h1, h2, h3⟩ := dgP_t h
  refine sm_of_by (fun q => ?_)
  rw [byT_in h1] at q
  exact absurd (Int32.le_trans q.1 h3) (by decide)
theorem wdT_gt {j k : Nat} (hj : j < 4) {B : Nat → Int32} {n i : Nat} (h : wIx j B n i = some k) : i < wdT B n i := by
  obtain ⟨h1, h2⟩ := wIx_s h
  have hl := wL_len (B := B) (n := n) (i := i)
  have : ∀ j, j < 4 → ∀ k, k < (wdl j).length → 0 < ((wdl j).getD k []).length := by decide +kernel
  have := this j hj k h1
  rw [← h2] at this
  omega
theorem wq_iff {j k : Nat} (hj : j < 4) (hk : k < (wdl j).length) {B : Nat → Int32} {n i c : Nat} (hc : codeR ((wdl j).getD k []) = c) : wcV B n i = nI c ↔ wIx j B n i = some k := by
  have hw : ∀ j, j < 4 → ∀ k, k < (wdl j).length → (∀ x ∈ (wdl j).getD k [], 1 ≤ x ∧ x ≤ 26) ∧ ((wdl j).getD k []).length ≤ 6 := by decide +kernel
  obtain ⟨a, b⟩ := hw j hj k hk
  rw [← hc, wc_iff a b]
  exact ⟨fun h => wIx_e hj hk h, fun h => (wIx_s h).2⟩
theorem wq_0_0 {B : Nat → Int32} {n i : Nat} : wcV B n i = nI (sixN 3 8 1 9 18 0) ↔ wIx 0 B n i = some 0 := wq_iff (by decide) (by decide) (by decide)
theorem wq_0_1 {B : Nat → Int32} {n i : Nat} : wcV B n i = nI (sixN 7 21 5 19 20 0) ↔ wIx 0 B n i = some 1 := wq_iff (by decide) (by decide) (by decide)
theorem wq_0_2 {B : Nat → Int32} {n i : Nat} : wcV B n i = nI (sixN 7 15 5 19 0 0) ↔ wIx 0 B n i = some 2 := wq_iff (by decide) (by decide) (by decide)
theorem wq_0_3 {B : Nat → Int32} {n i : Nat} : wcV B n i = nI (sixN 15 6 6 0 0 0) ↔ wIx 0 B n i = some 3 := wq_iff (by decide) (by decide) (by decide)
theorem wq_0_4 {B : Nat → Int32} {n i : Nat} : wcV B n i = nI (sixN 8 9 18 5 0 0) ↔ wIx 0 B n i = some 4 := wq_iff (by decide) (by decide) (by decide)
theorem wq_1_0 {B : Nat → Int32} {n i : Nat} : wcV B n i = nI (sixN 13 9 14 5 0 0) ↔ wIx 1 B n i = some 0 := wq_iff (by decide) (by decide) (by decide)
theorem wq_1_1 {B : Nat → Int32} {n i : Nat} : wcV B n i = nI (sixN 6 9 18 19 20 0) ↔ wIx 1 B n i = some 1 := wq_iff (by decide) (by decide) (by decide)
theorem wq_1_2 {B : Nat → Int32} {n i : Nat} : wcV B n i = nI (sixN 12 1 19 20 0 0) ↔ wIx 1 B n i = some 2 := wq_iff (by decide) (by decide) (by decide)
theorem wq_1_3 {B : Nat → Int32} {n i : Nat} : wcV B n i = nI (sixN 7 15 20 0 0 0) ↔ wIx 1 B n i = some 3 := wq_iff (by decide) (by decide) (by decide)
theorem wq_1_4 {B : Nat → Int32} {n i : Nat} : wcV B n i = nI (sixN 12 1 9 14 0 0) ↔ wIx 1 B n i = some 4 := wq_iff (by decide) (by decide) (by decide)
theorem wq_1_5 {B : Nat → Int32} {n i : Nat} : wcV B n i = nI (sixN 15 6 6 0 0 0) ↔ wIx 1 B n i = some 5 := wq_iff (by decide) (by decide) (by decide)
theorem wq_1_6 {B : Nat → Int32} {n i : Nat} : wcV B n i = nI (sixN 4 1 25 0 0 0) ↔ wIx 1 B n i = some 6 := wq_iff (by decide) (by decide) (by decide)
theorem wq_1_7 {B : Nat → Int32} {n i : Nat} : wcV B n i = nI (sixN 23 9 19 8 0 0) ↔ wIx 1 B n i = some 7 := wq_iff (by decide) (by decide) (by decide)
theorem wq_1_8 {B : Nat → Int32} {n i : Nat} : wcV B n i = nI (sixN 23 1 11 5 0 0) ↔ wIx 1 B n i = some 8 := wq_iff (by decide) (by decide) (by decide)
theorem wq_1_9 {B : Nat → Int32} {n i : Nat} : wcV B n i = nI (sixN 3 8 1 9 18 19) ↔ wIx 1 B n i = some 9 := wq_iff (by decide) (by decide) (by decide)
theorem wq_1_10 {B : Nat → Int32} {n i : Nat} : wcV B n i = nI (sixN 7 21 5 19 20 19) ↔ wIx 1 B n i = some 10 := wq_iff (by decide) (by decide) (by decide)
theorem wq_1_11 {B : Nat → Int32} {n i : Nat} : wcV B n i = nI (sixN 12 5 1 19 20 0) ↔ wIx 1 B n i = some 11 := wq_iff (by decide) (by decide) (by decide)
theorem wq_1_12 {B : Nat → Int32} {n i : Nat} : wcV B n i = nI (sixN 13 15 19 20 0 0) ↔ wIx 1 B n i = some 12 := wq_iff (by decide) (by decide) (by decide)
theorem wq_1_13 {B : Nat → Int32} {n i : Nat} : wcV B n i = nI (sixN 9 6 0 0 0 0) ↔ wIx 1 B n i = some 13 := wq_iff (by decide) (by decide) (by decide)
theorem wq_2_0 {B : Nat → Int32} {n i : Nat} : wcV B n i = nI (sixN 20 8 5 14 0 0) ↔ wIx 2 B n i = some 0 := wq_iff (by decide) (by decide) (by decide)
theorem wq_3_0 {B : Nat → Int32} {n i : Nat} : wcV B n i = nI (sixN 5 12 19 5 0 0) ↔ wIx 3 B n i = some 0 := wq_iff (by decide) (by decide) (by decide)

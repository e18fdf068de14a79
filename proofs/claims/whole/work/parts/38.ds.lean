/-! ===== the state of a day gone through: rows of numbers; rows that tell one or none; a row of yes and no ===== -/
abbrev DS : Type := pMI × (Nat → Nat → Option Nat) × (Nat → Bool)
def ud {α : Type} (f : Nat → α) (a : Nat) (v : α) : Nat → α := fun i => if i = a then v else f i
theorem ud_s {α : Type} {f : Nat → α} {a : Nat} {v : α} : ud f a v a = v := by simp [ud]
theorem ud_n {α : Type} {f : Nat → α} {a b : Nat} {v : α} (h : b ≠ a) : ud f a v b = f b := by simp [ud, h]
def oRow (i : Nat) : Bool := i == 195 || i == 196 || i == 198 || i == 204
def wD (s : DS) : pMI := fun i j => if oRow i = true ∧ j < 8 then oI (s.2.1 i j) else if i = 228 ∧ j < 8 then bI (s.2.2 j) else s.1 i j
theorem wD_o {s : DS} {i j : Nat} (hi : oRow i = true) (hj : j < 8) : wD s i j = oI (s.2.1 i j) := if_pos ⟨hi, hj⟩
theorem wD_b {s : DS} {j : Nat} (hj : j < 8) : wD s 228 j = bI (s.2.2 j) := by simp [wD, oRow, hj]
theorem wD_m {s : DS} {i : Nat} (hi : oRow i = false) (h2 : i ≠ 228) : wD s i = s.1 i := by funext j; simp [wD, hi, h2]
theorem oRow_lt {i : Nat} (h : i < 195) : oRow i = false := by simp [oRow]; omega
theorem wD_lt {s : DS} {i : Nat} (h : i < 195) : wD s i = s.1 i := wD_m (oRow_lt h) (by omega)
theorem wD_up {s : DS} {i j : Nat} {v : Int32} (hi : oRow i = false) (h2 : i ≠ 228) : up2 (wD s) i j v = wD (up2 s.1 i j v, s.2) := by
  funext a b
  by_cases h : a = i ∧ b = j
  · obtain ⟨rfl, rfl⟩ := h; simp [up2, wD, hi, h2]
  · simp [up2, wD, h]
theorem wD_uo {s : DS} {i j : Nat} {o : Option Nat} {v : Int32} (hi : oRow i = true) (hj : j < 8) (hv : v = oI o) : up2 (wD s) i j v = wD (s.1, up2 s.2.1 i j o, s.2.2) := by
  funext a b
  by_cases h : a = i ∧ b = j
  · obtain ⟨rfl, rfl⟩ := h; simp [up2, wD, hi, hj, hv]
  · simp [up2, wD, h]
theorem wD_us {s : DS} {i j q : Nat} (hi : oRow i = true) (hj : j < 8) : up2 (wD s) i j (nI q) = wD (s.1, up2 s.2.1 i j (some q), s.2.2) := wD_uo hi hj rfl
theorem wD_un {s : DS} {i j : Nat} (hi : oRow i = true) (hj : j < 8) : up2 (wD s) i j (-1) = wD (s.1, up2 s.2.1 i j none, s.2.2) := wD_uo hi hj rfl
theorem wD_ub {s : DS} {j : Nat} {o : Bool} {v : Int32} (hj : j < 8) (hv : v = bI o) : up2 (wD s) 228 j v = wD (s.1, s.2.1, ud s.2.2 j o) := by
  funext a b
  by_cases h : a = 228 ∧ b = j
  · obtain ⟨rfl, rfl⟩ := h; simp [up2, wD, oRow, hj, hv, ud]
  · by_cases h1 : a = 228
    · subst h1
      have : ¬ b = j := fun q => h ⟨rfl, q⟩
      simp [up2, wD, oRow, this, ud]
    · simp [up2, wD, h1]
/-- what such a state keeps to -/
def okP (nG : Nat) (o : Nat → Nat → Option Nat) : Prop := (∀ c b, o 204 c = some b → b < nG) ∧ (∀ b c, o 195 b = some c → c < 8) ∧ (∀ b c, o 198 b = some c → c < 8) ∧ (∀ b v, o 196 b = some v → v < 24)
def okD (nG : Nat) (s : DS) : Prop := okP nG s.2.1
theorem okP_up {nG : Nat} {o : Nat → Nat → Option Nat} {a j : Nat} {v : Option Nat} (ho : okP nG o) (h : ∀ q, v = some q → (a = 204 → q < nG) ∧ (a = 195 → q < 8) ∧ (a = 198 → q < 8) ∧ (a = 196 → q < 24)) : okP nG (up2 o a j v) := by
  refine ⟨fun x y q => ?_, fun x y q => ?_, fun x y q => ?_, fun x y q => ?_⟩
  · unfold up2 at q
    split at q
    · rename_i z; exact (h y q).1 z.1.symm
    · exact ho.1 x y q
  · unfold up2 at q
    split at q
    · rename_i z; exact (h y q).2.1 z.1.symm
    · exact ho.2.1 x y q
  · unfold up2 at q
    split at q
    · rename_i z; exact (h y q).2.2.1 z.1.symm
    · exact ho.2.2.1 x y q
  · unfold up2 at q
    split at q
    · rename_i z; exact (h y q).2.2.2 z.1.symm
    · exact ho.2.2.2 x y q
theorem okP_none {nG : Nat} {o : Nat → Nat → Option Nat} {a j : Nat} (ho : okP nG o) : okP nG (up2 o a j none) := okP_up ho (fun q z => by cases z)
/-- the free chair of most worth -/
def bsD (W : Nat → Int32) (fr : Nat → Bool) : Nat → Option Nat
  | 0 => none
  | n + 1 => match bsD W fr n with
    | none => if fr n then some n else none
    | some b => if fr n && decide (W b < W n) then some n else some b
theorem bsD_M {W : Nat → Int32} {o : Nat → Int32} {fr : Nat → Bool} : ∀ {n : Nat}, (∀ c, c < n → (o c = -1 ↔ fr c = true)) → bsM W o n = bsD W fr n
  | 0, _ => rfl
  | n + 1, h => by
    unfold bsM bsD
    rw [bsD_M (fun c hc => h c (by omega))]
    have := h n (by omega)
    cases bsD W fr n with
    | none => simp [this]
    | some b => simp [this]
theorem bsD_lt {W : Nat → Int32} {fr : Nat → Bool} : ∀ {n b : Nat}, bsD W fr n = some b → b < n ∧ fr b = true
  | 0, b, h => by cases h
  | n + 1, b, h => by
    unfold bsD at h
    cases hq : bsD W fr n with
    | none =>
      rw [hq] at h
      by_cases z : fr n = true
      · simp only [z, if_true] at h; cases h; exact ⟨by omega, z⟩
      · simp only [z] at h; cases h
    | some q =>
      rw [hq] at h
      have := bsD_lt hq
      by_cases z : (fr n && decide (W q < W n)) = true
      · simp only [z, if_true] at h; cases h; simp only [Bool.and_eq_true] at z; exact ⟨by omega, z.1⟩
      · simp only [z] at h; cases h; exact ⟨by omega, this.2⟩
theorem bsD_none {W : Nat → Int32} {fr : Nat → Bool} : ∀ {n : Nat}, bsD W fr n = none ↔ ∀ c, c < n → fr c = false
  | 0 => ⟨fun _ c hc => by omega, fun _ => rfl⟩
  | n + 1 => by
    unfold bsD
    have ih := bsD_none (W := W) (fr := fr) (n := n)
    cases hq : bsD W fr n with
    | none =>
      have h1 := ih.mp hq
      by_cases z : fr n = true
      · simp only [z, if_true]
        exact ⟨fun q => absurd q (by simp), fun q => absurd (q n (by omega)) (by simp [z])⟩
      · simp only [z]
        refine ⟨fun _ c hc => ?_, fun _ => rfl⟩
        by_cases e : c = n
        · subst e; simpa using z
        · exact h1 c (by omega)
    | some b =>
      refine ⟨fun q => ?_, fun q => ?_⟩
      · revert q; dsimp only; split <;> intro q <;> cases q
      · have h1 := ih.mpr (fun c hc => q c (by omega)); rw [hq] at h1; cases h1
theorem oI_m1 {o : Option Nat} (h : ∀ b, o = some b → b < 100) : oI o = -1 ↔ o.isNone = true := by
  cases o with
  | none => exact ⟨fun _ => rfl, fun _ => rfl⟩
  | some b => exact ⟨fun q => absurd q (nI_m1 (by have := h b rfl; omega)), fun q => by cases q⟩
/-- one sits -/
def sitD (g h c : Nat) (s : DS) : DS := (up2 (up2 (up2 s.1 205 c (nI h)) 201 g (s.1 201 g + nI 1)) 208 c (s.1 208 c + nI 1), up2 (up2 (up2 (up2 s.2.1 204 c (some g)) 195 g (some c)) 196 g none) 198 g (some ((s.2.1 198 g).getD c)), s.2.2)
def trD (W : Nat → Nat → Int32) (nC g h : Nat) (s : DS) : DS := match bsD (W g) (fun c => (s.2.1 204 c).isNone) nC with
  | none => s
  | some c => sitD g h c s
theorem sits_D {s : DS} {g h c : Nat} (hg : g < 8) (hc : c < 8) (hf : ∀ q, s.2.1 198 g = some q → q < 8) : sitsF (wD s) g h (some c) = wD (sitD g h c s) := by
  unfold sitsF sitD
  dsimp only
  rw [wD_m (i := 201) (by decide) (by decide), wD_m (i := 208) (by decide) (by decide)]
  rw [wD_us (by decide) hc, wD_us (by decide) hg, wD_up (by decide) (by decide), wD_un (by decide) hg, wD_up (by decide) (by decide), wD_up (by decide) (by decide)]
  rw [wD_uo (o := some ((s.2.1 198 g).getD c)) (by decide) hg]
  rw [wD_o (by decide) hg]
  cases hq : s.2.1 198 g with
  | none => rfl
  | some q => rw [if_neg (show ¬ oI (some q) = -1 from nI_m1 (by have := hf q hq; omega))]; rfl
theorem wM_D {s : DS} {F T : Nat → Nat} {g h n : Nat} (hn : n ≤ 8) {c : Nat} (hc : c < n) : wM (wD s) F T g h c = wM s.1 F T g h c := by
  unfold wM; rw [wD_lt (by omega)]
theorem bsD_congr {W V : Nat → Int32} {fr fs : Nat → Bool} : ∀ {n : Nat}, (∀ c, c < n → W c = V c ∧ fr c = fs c) → bsD W fr n = bsD V fs n
  | 0, _ => rfl
  | n + 1, h => by
    unfold bsD
    rw [bsD_congr (fun c hc => h c (by omega)), (h n (by omega)).1, (h n (by omega)).2]
    cases hq : bsD V fs n with
    | none => rfl
    | some b => dsimp only; rw [(h b (by have := (bsD_lt hq).1; omega)).1]
theorem best_D {s : DS} {F T : Nat → Nat} {g h nC nG : Nat} (hn : nC ≤ 8) (hG : nG ≤ 8) (ho : okD nG s) : bsM (wM (wD s) F T g h) (wD s 204) nC = bsD (wM s.1 F T g h) (fun c => (s.2.1 204 c).isNone) nC := by
  rw [bsD_M (fr := fun c => (s.2.1 204 c).isNone) (fun c hc => by rw [wD_o (by decide) (by omega)]; exact oI_m1 (fun b hb => by have := ho.1 c b hb; omega))]
  exact bsD_congr (fun c hc => ⟨wM_D hn hc, rfl⟩)
theorem sit_ok {nG g h c : Nat} {s : DS} (ho : okD nG s) (hg : g < nG) (hc : c < 8) : okD nG (sitD g h c s) := by
  refine okP_up (okP_none (okP_up (okP_up ho (fun q z => ?_)) (fun q z => ?_))) (fun q z => ?_)
  · cases z; exact ⟨fun _ => hg, fun q => (by cases q), fun q => (by cases q), fun q => (by cases q)⟩
  · cases z; exact ⟨fun q => (by cases q), fun _ => hc, fun q => (by cases q), fun q => (by cases q)⟩
  · cases z
    refine ⟨fun q => (by cases q), fun q => (by cases q), fun _ => ?_, fun q => (by cases q)⟩
    cases hq : s.2.1 198 g with
    | none => exact hc
    | some z => exact ho.2.2.1 g z hq
theorem tr_ok {W : Nat → Nat → Int32} {nC nG g h : Nat} {s : DS} (ho : okD nG s) (hg : g < nG) (hc : nC ≤ 8) : okD nG (trD W nC g h s) := by
  unfold trD
  cases hq : bsD (W g) (fun c => (s.2.1 204 c).isNone) nC with
  | none => exact ho
  | some c => exact sit_ok ho hg (by have := (bsD_lt hq).1; omega)
/-- one leaves -/
def frD (g : Nat) (s : DS) : DS := match s.2.1 195 g with
  | none => s
  | some c => (s.1, up2 (up2 s.2.1 204 c none) 195 g none, s.2.2)
theorem frees_D {s : DS} {g : Nat} (hg : g < 8) (hs : ∀ q, s.2.1 195 g = some q → q < 8) : freesF (wD s) g (s.2.1 195 g) = wD (frD g s) := by
  unfold frD freesF
  cases hq : s.2.1 195 g with
  | none => rfl
  | some c => dsimp only; rw [wD_un (by decide) (hs c hq), wD_un (by decide) hg]
theorem fr_ok {nG g : Nat} {s : DS} (ho : okD nG s) : okD nG (frD g s) := by
  unfold frD
  cases s.2.1 195 g with
  | none => exact ho
  | some c => exact okP_none (okP_none ho)
theorem frD_1 (g : Nat) (s : DS) : (frD g s).1 = s.1 := by unfold frD; cases s.2.1 195 g <;> rfl
theorem frD_2 (g : Nat) (s : DS) : (frD g s).2.2 = s.2.2 := by unfold frD; cases s.2.1 195 g <;> rfl
def wfD (g : Nat) (o : Option Nat) (s : DS) : DS := (s.1, up2 s.2.1 196 g o, s.2.2)
theorem wf_ok {nG g : Nat} {s : DS} {o : Option Nat} (ho : okD nG s) (h : ∀ v, o = some v → v < 24) : okD nG (wfD g o s) :=
  okP_up ho (fun q z => ⟨fun e => absurd e (by decide), fun e => absurd e (by decide), fun e => absurd e (by decide), fun _ => h q z⟩)
theorem okD_m {nG : Nat} {s : DS} {m : pMI} {b : Nat → Bool} (ho : okD nG s) : okD nG (m, s.2.1, b) := ho
/-- those who leave in a half -/
def lvD (T : Nat → Nat) (h g : Nat) (s : DS) : DS := if T g = h then wfD g none (frD g s) else s
theorem lv_ok {T : Nat → Nat} {h nG g : Nat} {s : DS} (ho : okD nG s) : okD nG (lvD T h g s) := by
  unfold lvD
  split
  · exact wf_ok (fr_ok ho) (fun v q => by cases q)
  · exact ho
/-- the hotel at a chair -/
def htD (F : Nat → Nat) (h : Nat) (ob : Int32) (c : Nat) (s : DS) : DS := match s.2.1 204 c with
  | none => s
  | some b => if nI h - s.1 205 c < ob then s else wfD b (some (max (F b) h)) (up2 s.1 202 b (s.1 202 b + nI 1), (frD b s).2)
theorem hot_D {F : Nat → Nat} {h nG c : Nat} {ob : Int32} {s : DS} (hG : nG ≤ 8) (ho : okD nG s) (hc : c < 8) : hotS F h ob c (wD s) = wD (htD F h ob c s) := by
  unfold hotS htD
  rw [wD_o (by decide) hc, dI_o (fun b hb => by have := ho.1 c b hb; omega)]
  cases hq : s.2.1 204 c with
  | none => rfl
  | some b =>
    have hb := ho.1 c b hq
    dsimp only
    rw [wD_m (i := 205) (by decide) (by decide), wD_m (i := 202) (by decide) (by decide)]
    split
    · rfl
    · rw [wD_o (by decide) (by omega), dI_o (fun q hq => by have := ho.2.1 b q hq; omega), frees_D (by omega) (fun q hq => ho.2.1 b q hq), wD_up (by decide) (by decide), wD_us (by decide) (by omega), frD_1]
      rfl
theorem ht_ok {F : Nat → Nat} {h nG c : Nat} {ob : Int32} {s : DS} (ho : okD nG s) (hF : ∀ b, b < nG → F b < 23) (hh : h < 24) : okD nG (htD F h ob c s) := by
  unfold htD
  cases hq : s.2.1 204 c with
  | none => exact ho
  | some b =>
    dsimp only
    split
    · exact ho
    · exact wf_ok (okD_m (s := frD b s) (fr_ok ho)) (fun v q => by cases q; have := hF b (ho.1 c b hq); omega)
def hgD (F : Nat → Nat) (h : Nat) (ob : Int32) (nC go : Nat) (s : DS) : DS := if gB go h then lpS (htD F h ob) 0 nC s else s
theorem hg_ok {F : Nat → Nat} {h nG nC go : Nat} {ob : Int32} {s : DS} (ho : okD nG s) (hF : ∀ b, b < nG → F b < 23) (hh : h < 24) : okD nG (hgD F h ob nC go s) := by
  unfold hgD
  split
  · exact lpS_inv (fun _ s => okD nG s) (e := nC) (fun i s _ h => ht_ok h hF hh) nC 0 s (by omega) ho
  · exact ho
theorem hg_D {F : Nat → Nat} {h nG nC go : Nat} {ob : Int32} {s : DS} (hG : nG ≤ 8) (hC : nC ≤ 8) (ho : okD nG s) (hF : ∀ b, b < nG → F b < 23) (hh : h < 24) : hotF F h ob nC go (wD s) = wD (hgD F h ob nC go s) := by
  unfold hotF hgD
  split
  · have key : ∀ n i (s : DS), i + n ≤ nC → okD nG s → lpS (hotS F h ob) i n (wD s) = wD (lpS (htD F h ob) i n s) := by
      intro n
      induction n with
      | zero => intro i s _ _; rfl
      | succ n ih =>
        intro i s hi hs
        show lpS (hotS F h ob) (i + 1) n (hotS F h ob i (wD s)) = wD (lpS (htD F h ob) (i + 1) n (htD F h ob i s))
        rw [hot_D hG hs (by omega)]
        exact ih (i + 1) _ (by omega) (ht_ok hs hF hh)
    exact key nC 0 s (by omega) ho
  · rfl
theorem pool_D {s : DS} {nC nG : Nat} {F T : Nat → Nat} (h : PoolM s.1 nC nG F T) : PoolM (wD s) nC nG F T := by
  obtain ⟨a, b, c, d, e⟩ := h
  exact ⟨by rw [wD_lt (by decide)]; exact a, by rw [wD_lt (by decide)]; exact b, c, d, fun g hg => by rw [wD_lt (by omega)]; exact e g hg⟩
theorem okO_D {s : DS} {nG : Nat} (ho : okD nG s) : okO (wD s) nG :=
  ⟨fun c hc => ⟨s.2.1 204 c, wD_o (by decide) hc, fun b hb => ho.1 c b hb⟩, fun b hb => ⟨s.2.1 195 b, wD_o (by decide) hb, fun c hc => ho.2.1 b c hc⟩⟩
theorem simOK_D {s : DS} {nC nG : Nat} {F T : Nat → Nat} {ob : Int32} {go : Nat} (h : PoolM s.1 nC nG F T) (ho : okD nG s) (h1 : s.1 87 53 = ob) (h2 : s.1 91 2 = nI go) (h3 : go < 24) : simOK (wD s) nC nG F T ob go :=
  ⟨pool_D h, okO_D ho, by rw [wD_lt (by decide)]; exact h1, by rw [wD_lt (by decide)]; exact h2, h3⟩
theorem okW_D {s : DS} {nG : Nat} (ho : okD nG s) : okW (wD s) (s.2.1 196) := fun b hb => ⟨wD_o (by decide) hb, fun v hv => ho.2.2.2 b v hv⟩
theorem okR_D {s : DS} {rk ord : Nat → Nat} (h : okR s.1 rk ord) : okR (wD s) rk ord := ⟨fun b hb => by rw [wD_m (by decide) (by decide)]; exact h.1 b hb, h.2⟩
/-- rows that a day doesn't change -/
def frm (m x : pMI) : Prop := ∀ i, i < 199 ∨ 228 < i → x i = m i
theorem frm_r {m : pMI} : frm m m := fun _ _ => rfl
theorem frm_up {m x : pMI} {a j : Nat} {v : Int32} (h : frm m x) (ha : 199 ≤ a ∧ a ≤ 228) : frm m (up2 x a j v) := fun i hi => by rw [up2_row (by omega)]; exact h i hi

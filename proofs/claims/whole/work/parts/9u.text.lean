/-! ===== texts: what all three readers need ===== -/
theorem XW_d {Γ : pTG} {d d' k n : Nat} {M : pMD} {pc : Nat} {L : List (Nat × Value)} {S : List Value} {g : pGG} {mi : pMI} {ml : pML} {Q : pQ} (h : d ≤ d') (hx : XW Γ d k n M pc L S g mi ml Q) : XW Γ d' k n M pc L S g mi ml Q := by
  intro p e s m args below meth c H locs cells slots mc ms ls ad ad0 n0 R P
  obtain ⟨hc, hE, hS, hl, hRep, hoL, hoS, ⟨q1, q2, q3, q4, q5, q6⟩, ha⟩ := P
  exact hx p e s m args below meth c H locs cells slots mc ms ls ad ad0 n0 R ⟨hc, hE, hS, hl, hRep, hoL, hoS, ⟨q1, q2, q3, q4, by omega, by omega⟩, ha⟩
theorem unit_sk {S : Option hFn} {B : Nat → Int32} {n i : Nat} : unitR S B n (skT B n i) = unitR S B n i := by
  unfold unitR
  rw [skT_sk, numR_sk]
theorem unitN_sk {B : Nat → Int32} {n i : Nat} : ∀ k, unitN B n k (skT B n i) = unitN B n k i
  | 0 => unit_sk
  | k + 1 => unit_sk
theorem jnR_sk {U : hFn} {O : Int32 → Option Nat} {B : Nat → Int32} {n i : Nat} (h : U (skT B n i) = U i) : jnR U O B n (skT B n i) = jnR U O B n i := by
  unfold jnR
  rw [h]
theorem sumN_sk {B : Nat → Int32} {n i k : Nat} : sumR (unitN B n k) B n (skT B n i) = sumR (unitN B n k) B n i := jnR_sk (jnR_sk (unitN_sk k))
theorem rdNu_ok {B : Nat → Int32} {n i k e : Nat} {P P' : PD} (hi : i ≤ n) (hP : okPD P) (h0 : k = 0 → P.1 < 8) (h1 : k = 1 → P.2.1 < 8) (h : rdNu B n i k P = .ok (e, P')) : e ≤ n ∧ okPD P' := by
  have one : ∀ lo hx (f : Nat → PD), (∀ v, lo ≤ v → v < hx → okPD (f v)) → rd1 B n i lo hx f = .ok (e, P') → e ≤ n ∧ okPD P' := fun lo hx f hf q => by
    unfold rd1 at q
    cases hq : numR B n i lo hx with
    | error x => rw [hq] at q; cases q
    | ok x =>
      obtain ⟨v, e1⟩ := x
      rw [hq] at q
      have := numR_o hi hq
      cases q
      exact ⟨this.1, hf v this.2.2.1 this.2.2.2⟩
  match k, h0, h1, h with
  | 0, h0, _, h =>
    have h : rdCh B n i P = .ok (e, P') := h
    unfold rdCh at h
    cases hq : numR B n i 0 10 with
    | error x => rw [hq] at h; cases h
    | ok x =>
      obtain ⟨a, e1⟩ := x
      rw [hq] at h
      have q1 := numR_o hi hq
      dsimp only at h
      cases hq2 : numR B n e1 0 10 with
      | error x => rw [hq2] at h; cases h
      | ok x =>
        obtain ⟨b, e2⟩ := x
        rw [hq2] at h
        have q2 := numR_o q1.1 hq2
        cases h
        exact ⟨q2.1, ok_ch hP (h0 rfl) q1.2.2.2 q2.2.2.2⟩
  | 1, _, h1, h =>
    have h : rdGu B n i P = .ok (e, P') := h
    unfold rdGu at h
    cases hq : numR B n i 0 24 with
    | error x => rw [hq] at h; cases h
    | ok x =>
      obtain ⟨a, e1⟩ := x
      rw [hq] at h
      have q1 := numR_o hi hq
      dsimp only at h
      cases hq2 : numR B n e1 0 23 with
      | error x => rw [hq2] at h; cases h
      | ok x =>
        obtain ⟨b, e2⟩ := x
        rw [hq2] at h
        have q2 := numR_o q1.1 hq2
        dsimp only at h
        cases hq3 : numR B n e2 (b + 1) 24 with
        | error x => rw [hq3] at h; cases h
        | ok x =>
          obtain ⟨t, e3⟩ := x
          rw [hq3] at h
          have q3 := numR_o q2.1 hq3
          dsimp only at h
          cases hq4 : numR B n e3 0 10 with
          | error x => rw [hq4] at h; cases h
          | ok x =>
            obtain ⟨c, e4⟩ := x
            rw [hq4] at h
            have q4 := numR_o q3.1 hq4
            cases h
            exact ⟨q4.1, ok_gu hP (h1 rfl) q1.2.2.2 q2.2.2.2 (by omega) q3.2.2.2 q4.2.2.2⟩
  | 2, _, _, h => exact one 0 24 (seGo P) (fun v _ hv => ⟨hP.1, hP.2.1, hv, hP.2.2.2.1, hP.2.2.2.2.1, hP.2.2.2.2.2.1, hP.2.2.2.2.2.2.1, hP.2.2.2.2.2.2.2⟩) h
  | 3, _, _, h => exact one 1 24 (seUn P) (fun v h1 hv => ⟨hP.1, hP.2.1, hP.2.2.1, h1, hv, hP.2.2.2.2.2.1, hP.2.2.2.2.2.2.1, hP.2.2.2.2.2.2.2⟩) h
  | k + 4, _, _, h => exact one 0 100 (sePr P) (fun v _ hv => ⟨hP.1, hP.2.1, hP.2.2.1, hP.2.2.2.1, hP.2.2.2.2.1, hv, hP.2.2.2.2.2.2.1, hP.2.2.2.2.2.2.2⟩) h
theorem sgR_o {α : Type} {B : Nat → Int32} {n i c : Nat} {f : Nat → α} {x : α} (hi : i ≤ n) (hc : ¬ nI c = -1) (h : sgR B n i c f = .ok x) : skT B n i + 1 ≤ n ∧ f (skT B n i + 1) = x := by
  unfold sgR at h
  by_cases q : byT B n (skT B n i) = nI c
  · rw [if_pos q] at h
    cases h
    refine ⟨?_, rfl⟩
    unfold byT at q
    by_cases z : skT B n i < n
    · omega
    · rw [if_neg z] at q; exact absurd q.symm hc
  · rw [if_neg q] at h; cases h
theorem plR_ok {B : Nat → Int32} {n : Nat} : ∀ f i c (P P' : PD), i ≤ n → okPD P → plR B n f i c P = .ok P' → okPD P'
  | 0, _, _, _, _, _, _, h => by cases h
  | f + 1, i, c, P, P', hi, hP, h => by
    unfold plR at h
    by_cases q : n ≤ skT B n i
    · rw [if_pos q] at h; cases h; exact hP
    · rw [if_neg q] at h
      cases hc : clR B n (skT B n i) c P with
      | error x => rw [hc] at h; cases h
      | ok x =>
        obtain ⟨e, P1⟩ := x
        rw [hc] at h
        dsimp only at h
        have h8 := hP.1
        have h9 := hP.2.1
        have hok : e ≤ n ∧ okPD P1 := by
          unfold clR at hc
          cases hw : wIx 0 B n (skT B n i) with
          | none => rw [hw] at hc; cases hc
          | some k =>
            rw [hw] at hc
            dsimp only at hc
            by_cases z : c = 60 ∨ (k = 0 ∧ P.1 = 8) ∨ (k = 1 ∧ P.2.1 = 8)
            · rw [if_pos z] at hc; cases hc
            · rw [if_neg z] at hc
              cases hr : rdNu B n (wdT B n (skT B n i)) k P with
              | error x => rw [hr] at hc; cases hc
              | ok x =>
                obtain ⟨e2, P2⟩ := x
                rw [hr] at hc
                dsimp only at hc
                have q1 := rdNu_ok (wdT_le (skT_le hi)) hP (fun y => by omega) (fun y => by omega) hr
                have q2 := sgR_o q1.1 (nI_m1 (by omega)) hc
                cases q2.2
                exact ⟨q2.1, q1.2⟩
        exact plR_ok f e (c + 1) P1 P' hok.1 hok.2 h
theorem bkR_ok {B : Nat → Int32} {n hx : Nat} : ∀ f i c (bk : Nat → Nat → Nat) c' bk', i ≤ n → okBk hx c bk → bkR B n hx f i c bk = .ok (c', bk') → okBk hx c' bk'
  | 0, _, _, _, _, _, _, _, h => by cases h
  | f + 1, i, c, bk, c', bk', hi, hk, h => by
    unfold bkR at h
    by_cases q : n ≤ skT B n i
    · rw [if_pos q] at h; cases h; exact hk
    · rw [if_neg q] at h
      cases hc : lnR B n (skT B n i) c hx with
      | error x => rw [hc] at h; cases h
      | ok x =>
        obtain ⟨j, d, a, b⟩ := x
        rw [hc] at h
        dsimp only at h
        have hok : j ≤ n ∧ okBk hx (c + 1) (adL bk c d a b) := by
          unfold lnR at hc
          cases h1 : numR B n (skT B n i) 0 61 with
          | error x => rw [h1] at hc; cases hc
          | ok x =>
            obtain ⟨d1, e1⟩ := x
            rw [h1] at hc
            dsimp only at hc
            have q1 := numR_o (skT_le hi) h1
            by_cases z : 12 ≤ c
            · rw [if_pos z] at hc; cases hc
            · rw [if_neg z] at hc
              cases h2 : numR B n e1 0 hx with
              | error x => rw [h2] at hc; cases hc
              | ok x =>
                obtain ⟨a1, e2⟩ := x
                rw [h2] at hc
                dsimp only at hc
                have q2 := numR_o q1.1 h2
                cases h3 : numR B n e2 0 24 with
                | error x => rw [h3] at hc; cases hc
                | ok x =>
                  obtain ⟨b1, e3⟩ := x
                  rw [h3] at hc
                  dsimp only at hc
                  have q3 := numR_o q2.1 h3
                  have q4 := sgR_o q3.1 (nI_m1 (by omega)) hc
                  cases q4.2
                  exact ⟨q4.1, okBk_s hk (by omega) q1.2.2.2 q2.2.2.2 q3.2.2.2⟩
        exact bkR_ok f j (c + 1) _ c' bk' hok.1 hok.2 h
/-- habits of those who were told none -/
def H00 : Nat → HBt := fun _ => ([(1, 8)], fun kn => kn 8)
theorem ok_H00 : okH H00 := fun o ho => ⟨by show 1 ≤ 150; omega, 1, 1, Or.inr (Or.inl ⟨8, by omega, rfl, rfl, by omega⟩), by omega⟩
theorem ok_A00 {ask : Nat → Bool} : okA H00 ask := fun o _ _ k1 k2 h => h 8 (by omega)
/-- a text read: the tape empty, the place, the book -/
def tbA (A : AS) (bn : Nat × (Nat → Nat → Nat)) (p : Int32) : AS := (A.1, A.2.1, A.2.2.1, bn, A.2.2.2.2.1, A.2.2.2.2.2.1, A.2.2.2.2.2.2.1, (0, aT A), p, aR A)
theorem ok_tb {A : AS} {bn : Nat × (Nat → Nat → Nat)} {p : Int32} (hA : okAS A) (hb : okBk (aG A) bn.1 bn.2) : okAS (tbA A bn p) := by
  obtain ⟨h1, h2, h3, h4, h5, h6, h7, h8, h9, h10, h11⟩ := hA
  exact ⟨h1, h2, h3, hb, h5, h6, h7, h8, h9, by show 0 ≤ 600; omega, fun k hk => absurd hk (by show ¬ k < 0; omega)⟩
theorem CI_tb {A : AS} {g : pGG} {m x : pMI} {l : pML} {bn : Nat × (Nat → Nat → Nat)} {p : Int32} (h : CI A g m l) (e : ∀ i, (i < 87 ∨ 451 ≤ i) → ¬ scR i → i ≠ 0 → i ≠ 2 → i ≠ 24 → i ≠ 25 → x i = m i) (e0 : ∀ j, j ≠ 17 → x 0 j = m 0 j) (h17 : x 0 17 = nI 0) (h24 : x 24 2 = nI bn.1) (h25 : ∀ k, k < bn.1 → ∀ q, q < 3 → x 25 (k * 3 + q) = nI (bn.2 k q)) (hp : x 2 4 = p) : CI (tbA A bn p) g x l := by
  obtain ⟨r, im, st, qi, si, c1, c2, c3, c4, c5, c6, c7, c8, c9, c10, c11, c12, c13⟩ := h
  have E : ∀ i, (i < 87 ∨ 451 ≤ i) → ¬ scR i → i ≠ 0 → i ≠ 2 → i ≠ 24 → i ≠ 25 → x i = m i := e
  have e' : ∀ i, (3 ≤ i ∧ i ≤ 9) ∨ i = 17 ∨ i = 18 ∨ i = 19 ∨ i = 27 ∨ i = 28 ∨ (31 ≤ i ∧ i ≤ 41) ∨ i = 43 ∨ i = 47 ∨ i = 53 ∨ (57 ≤ i ∧ i ≤ 67) ∨ i = 77 ∨ i = 78 ∨ (80 ≤ i ∧ i ≤ 83) ∨ i = 86 ∨ 451 ≤ i → x i = m i := fun i hi => e i (by omega) (by unfold scR; omega) (by omega) (by omega) (by omega) (by omega)
  refine ⟨r, im, st, qi, si, c1, DOK_row c2 (fun i hi => e' i (by omega)) (by rw [e' 17 (by omega)]) rfl, ⟨h24, h25⟩, ?_, ?_, ?_, ⟨h17, fun k hk => absurd hk (by show ¬ k < 0; omega)⟩, ⟨hp, ?_⟩, ?_, ?_, ?_, c12, ?_⟩
  · rw [e0 18 (by omega)]; exact c4
  · rw [e' 81 (by omega)]; exact ⟨c5.1, chR_row c5.2 (e' 82 (by omega))⟩
  · rw [e' 81 (by omega)]
    refine ⟨c6.1, c6.2.1, fun k hk => ?_⟩
    have := (c12.2.2.2.2.2.1 k (Nat.lt_of_lt_of_le hk c6.2.1)).2.2.1
    exact imC_row (c6.2.2 k hk) (e' _ (by omega)) (e' _ (by omega)) (e' _ (by omega))
  · rw [e' 86 (by omega)]; exact c8.2
  · rw [e0 19 (by omega)]
    rcases c9 with q | ⟨q1, q2⟩
    · exact Or.inl q
    · exact Or.inr ⟨q1, cdy_row (e' 58 (by omega)) (e' 59 (by omega)) (by rw [e' 57 (by omega)]) (e' 65 (by omega)) (e' 66 (by omega)) q2⟩
  · rw [e' 57 (by omega), e' 63 (by omega), e' 67 (by omega), e' 43 (by omega), e' 47 (by omega), e' 53 (by omega)]; exact c10
  · rw [e' 77 (by omega)]
    rcases c11 with q | ⟨q1, q2⟩
    · exact Or.inl q
    · exact Or.inr ⟨q1, GOK_row q2 (by rw [e' 77 (by omega)]) (e' 78 (by omega)) (e' 80 (by omega))⟩
  · intro hst
    have := (c12.2.2.2.2.2.2.2.2 hst).2.2.1
    rw [e' si (by omega)]
    exact c13 hst
theorem RI_tb {A : AS} {m x : pMI} {bn : Nat × (Nat → Nat → Nat)} {p : Int32} (hA : okAS A) (h : RI A m) (hb : bn.1 ≤ 12) (e : ∀ i, 88 ≤ i → i < 450 → ¬ rsR i → ¬ (143 ≤ i ∧ i ≤ 154) → x i = m i) (e7 : ∀ j, 29 ≤ j → j ≤ 31 → x 87 j = m 87 j) (h1 : x 87 1 = nI 0) (h3 : x 87 3 = p) (h28 : x 87 28 = nI bn.1) (h14 : ∀ k, k < bn.1 → ∀ q, q < 3 → x (143 + k) q = nI (bn.2 k q)) : RI (tbA A bn p) x := by
  have hc := hA.2.2.2.2.2.1
  have hi := hA.2.2.2.2.2.2.2.1
  obtain ⟨r1, r2, r3, r4, r5, r6, r7, r8, r9, r10⟩ := h
  have e' : ∀ i, i = 89 ∨ i = 91 ∨ (102 ≤ i ∧ i ≤ 109) ∨ (121 ≤ i ∧ i ≤ 129) ∨ (134 ≤ i ∧ i ≤ 141) ∨ (169 ≤ i ∧ i ≤ 193) → x i = m i := fun i hi => e i (by omega) (by omega) (by unfold rsR; omega) (by omega)
  exact ⟨rfP_w hA.1 r1 (fun i hi => e' i (by omega)), rfHb_w r2 (fun i hi => e' i (by omega)), fun b hb => by rw [e' 193 (by omega)]; exact r3 b hb, ⟨h28, h14⟩, (e7 29 (by omega) (by omega)).trans r5, ⟨(e7 30 (by omega) (by omega)).trans r6.1, fun k hk => rfSn_row (r6.2 k hk) (e' _ (by have hk : k < aCn A := hk; omega))⟩, ⟨(e7 31 (by omega) (by omega)).trans r7.1, fun k hk => rfIm_row (r7.2 k hk) (e' _ (by have hk : k < aIn A := hk; omega))⟩, ⟨h1, fun k hk => absurd hk (by show ¬ k < 0; omega)⟩, h3, fun j hj => by rw [e' 89 (by omega)]; exact r10 j hj⟩
/-- the class at a text's start -/
def tx0 (m : pMI) (n : Nat) : pMI := up2 (up2 (up2 (up2 (up2 m 2 1 (nI n)) 2 2 (nI 0)) 2 3 (nI 0)) 2 4 (-1)) 0 17 (nI 0)
theorem tx0_row {m : pMI} {n i : Nat} (h0 : i ≠ 0) (h2 : i ≠ 2) : tx0 m n i = m i := by unfold tx0; rw [up2_row h0, up2_row h2, up2_row h2, up2_row h2, up2_row h2]
theorem tx0_0 {m : pMI} {n j : Nat} (h : j ≠ 17) : tx0 m n 0 j = m 0 j := by unfold tx0; rw [up2_n h, up2_row (by omega), up2_row (by omega), up2_row (by omega), up2_row (by omega)]
theorem tx0_17 {m : pMI} {n : Nat} : tx0 m n 0 17 = nI 0 := up2_s
theorem tx0_24 {m : pMI} {n : Nat} : tx0 m n 2 4 = -1 := by unfold tx0; rw [up2_row (by omega), up2_s]
theorem tx0_23 {m : pMI} {n : Nat} : tx0 m n 2 3 = nI 0 := by unfold tx0; rw [up2_row (by omega), up2_n (by omega), up2_s]
theorem tx0_T {A : AS} {g : pGG} {m : pMI} {l : pML} {n : Nat} (hA : okAS A) (hC : CI A g m l) (hn : n ≤ aTn A) : TXT (tx0 m n) (aT A) n 0 := by
  have h6 := hA.2.2.2.2.2.2.2.2.2.1
  refine ⟨by omega, by omega, fun k hk => ?_, ?_, ?_⟩
  · rw [tx0_row (by omega) (by omega)]; exact (CI_k hC).2.2.2.2.1.2 k (by omega)
  · unfold tx0; rw [up2_row (by omega), up2_n (by omega), up2_n (by omega), up2_n (by omega), up2_s]
  · unfold tx0; rw [up2_row (by omega), up2_n (by omega), up2_n (by omega), up2_s]
set_option maxRecDepth 100000 in
set_option maxHeartbeats 4000000 in
theorem c_startText (Γ : pTG) (g : pGG) (mi : pMI) (ml : pML) (hSh : Sh g) (n : Nat) : cV Γ 2 mX11_startText [.ref 0, .int (nI n)] g mi ml (tx0 mi n) ml := by
  refine cV_of (by decide +kernel) (Nat.le_of_ble_eq_true rfl) ?_
  refine X_aload_n dX11_startText_0 rfl ?_
  refine X_getr (a := 2) dX11_startText_1 fkX11_18 rfl (k_0 hSh) (r_0_1 hSh) ?_
  refine X_iload_n dX11_startText_4 rfl ?_
  refine X_callVV dX11_startText_5 mkX11_382 (k_2 hSh) (c_begin Γ g mi ml hSh (nI n)) rfl rfl (by decide) (Nat.le_of_ble_eq_true rfl) ?_
  refine X_aload_n dX11_startText_8 rfl ?_
  refine X_iconst (v := nI 0) dX11_startText_9 (by decide) ?_
  refine X_puti dX11_startText_10 fkX11_108 rfl rfl (k_0 hSh) ?_
  exact X_vret dX11_startText_13 rfl ⟨rfl, rfl, rfl, rfl⟩
def PCY (m x : pMI) : Prop := (∀ j, j < 8 → x 4 j = m 11 j ∧ x 5 j = m 12 j ∧ x 6 j = m 13 j ∧ x 7 j = m 14 j ∧ x 8 j = m 15 j ∧ x 9 j = m 16 j) ∧ (x 3 9 = m 10 9 ∧ x 3 10 = m 10 10 ∧ x 3 6 = m 10 6 ∧ x 3 7 = m 10 7 ∧ x 3 8 = m 10 8) ∧ ∀ i, i < 3 ∨ 9 < i → x i = m i
set_option maxRecDepth 100000 in
set_option maxHeartbeats 4000000 in
theorem c_Pcopy (Γ : pTG) (g : pGG) (mi : pMI) (ml : pML) (hSh : Sh g)  : rV Γ 1 mX8_copy [.ref 3, .ref 10] g mi ml (fun m l => PCY mi m ∧ l = ml) := by
  refine rV_of (by decide +kernel) (Nat.le_of_ble_eq_true rfl) ?_
  refine X_aload_n dX8_copy_0 rfl ?_
  refine X_getr (a := 11) dX8_copy_1 fkX8_9 rfl (k_10 hSh) (r_10_0 hSh) ?_
  refine X_iconst (v := nI 0) dX8_copy_4 (by decide) ?_
  refine X_aload_n dX8_copy_5 rfl ?_
  refine X_getr (a := 4) dX8_copy_6 fkX8_9 rfl (k_3 hSh) (r_3_0 hSh) ?_
  refine X_iconst (v := nI 0) dX8_copy_9 (by decide) ?_
  refine X_bipush (v := nI 8) dX8_copy_10 (by decide) ?_
  refine X_copy 0 0 8 dX8_copy_12 mkX8_46 (k_11 hSh) (k_4 hSh) rfl rfl rfl (by omega) (by omega) (by decide) (by decide) ?_
  refine X_mi (show _ = (cpR mi 11 4 8) from rfl) ?_
  refine X_aload_n dX8_copy_15 rfl ?_
  refine X_getr (a := 12) dX8_copy_16 fkX8_15 rfl (k_10 hSh) (r_10_1 hSh) ?_
  refine X_iconst (v := nI 0) dX8_copy_19 (by decide) ?_
  refine X_aload_n dX8_copy_20 rfl ?_
  refine X_getr (a := 5) dX8_copy_21 fkX8_15 rfl (k_3 hSh) (r_3_1 hSh) ?_
  refine X_iconst (v := nI 0) dX8_copy_24 (by decide) ?_
  refine X_bipush (v := nI 8) dX8_copy_25 (by decide) ?_
  refine X_copy 0 0 8 dX8_copy_27 mkX8_46 (k_12 hSh) (k_5 hSh) rfl rfl rfl (by omega) (by omega) (by decide) (by decide) ?_
  refine X_mi (show _ = (cpR (cpR mi 11 4 8) 12 5 8) from rfl) ?_
  refine X_aload_n dX8_copy_30 rfl ?_
  refine X_getr (a := 13) dX8_copy_31 fkX8_18 rfl (k_10 hSh) (r_10_2 hSh) ?_
  refine X_iconst (v := nI 0) dX8_copy_34 (by decide) ?_
  refine X_aload_n dX8_copy_35 rfl ?_
  refine X_getr (a := 6) dX8_copy_36 fkX8_18 rfl (k_3 hSh) (r_3_2 hSh) ?_
  refine X_iconst (v := nI 0) dX8_copy_39 (by decide) ?_
  refine X_bipush (v := nI 8) dX8_copy_40 (by decide) ?_
  refine X_copy 0 0 8 dX8_copy_42 mkX8_46 (k_13 hSh) (k_6 hSh) rfl rfl rfl (by omega) (by omega) (by decide) (by decide) ?_
  refine X_mi (show _ = (cpR (cpR (cpR mi 11 4 8) 12 5 8) 13 6 8) from rfl) ?_
  refine X_aload_n dX8_copy_45 rfl ?_
  refine X_getr (a := 14) dX8_copy_46 fkX8_21 rfl (k_10 hSh) (r_10_3 hSh) ?_
  refine X_iconst (v := nI 0) dX8_copy_49 (by decide) ?_
  refine X_aload_n dX8_copy_50 rfl ?_
  refine X_getr (a := 7) dX8_copy_51 fkX8_21 rfl (k_3 hSh) (r_3_3 hSh) ?_
  refine X_iconst (v := nI 0) dX8_copy_54 (by decide) ?_
  refine X_bipush (v := nI 8) dX8_copy_55 (by decide) ?_
  refine X_copy 0 0 8 dX8_copy_57 mkX8_46 (k_14 hSh) (k_7 hSh) rfl rfl rfl (by omega) (by omega) (by decide) (by decide) ?_
  refine X_mi (show _ = (cpR (cpR (cpR (cpR mi 11 4 8) 12 5 8) 13 6 8) 14 7 8) from rfl) ?_
  refine X_aload_n dX8_copy_60 rfl ?_
  refine X_getr (a := 15) dX8_copy_61 fkX8_24 rfl (k_10 hSh) (r_10_4 hSh) ?_
  refine X_iconst (v := nI 0) dX8_copy_64 (by decide) ?_
  refine X_aload_n dX8_copy_65 rfl ?_
  refine X_getr (a := 8) dX8_copy_66 fkX8_24 rfl (k_3 hSh) (r_3_4 hSh) ?_
  refine X_iconst (v := nI 0) dX8_copy_69 (by decide) ?_
  refine X_bipush (v := nI 8) dX8_copy_70 (by decide) ?_
  refine X_copy 0 0 8 dX8_copy_72 mkX8_46 (k_15 hSh) (k_8 hSh) rfl rfl rfl (by omega) (by omega) (by decide) (by decide) ?_
  refine X_mi (show _ = (cpR (cpR (cpR (cpR (cpR mi 11 4 8) 12 5 8) 13 6 8) 14 7 8) 15 8 8) from rfl) ?_
  refine X_aload_n dX8_copy_75 rfl ?_
  refine X_getr (a := 16) dX8_copy_76 fkX8_27 rfl (k_10 hSh) (r_10_5 hSh) ?_
  refine X_iconst (v := nI 0) dX8_copy_79 (by decide) ?_
  refine X_aload_n dX8_copy_80 rfl ?_
  refine X_getr (a := 9) dX8_copy_81 fkX8_27 rfl (k_3 hSh) (r_3_5 hSh) ?_
  refine X_iconst (v := nI 0) dX8_copy_84 (by decide) ?_
  refine X_bipush (v := nI 8) dX8_copy_85 (by decide) ?_
  refine X_copy 0 0 8 dX8_copy_87 mkX8_46 (k_16 hSh) (k_9 hSh) rfl rfl rfl (by omega) (by omega) (by decide) (by decide) ?_
  refine X_mi (show _ = (cpR (cpR (cpR (cpR (cpR (cpR mi 11 4 8) 12 5 8) 13 6 8) 14 7 8) 15 8 8) 16 9 8) from rfl) ?_
  refine X_aload_n dX8_copy_90 rfl ?_
  refine X_aload_n dX8_copy_91 rfl ?_
  refine X_geti dX8_copy_92 fkX8_30 rfl (k_10 hSh) ?_
  rw [(show (cpR (cpR (cpR (cpR (cpR (cpR mi 11 4 8) 12 5 8) 13 6 8) 14 7 8) 15 8 8) 16 9 8) 10 9 = mi 10 9 by rw [cpR_row (by omega), cpR_row (by omega), cpR_row (by omega), cpR_row (by omega), cpR_row (by omega), cpR_row (by omega)])]
  refine X_puti dX8_copy_95 fkX8_30 rfl rfl (k_3 hSh) ?_
  refine X_aload_n dX8_copy_98 rfl ?_
  refine X_aload_n dX8_copy_99 rfl ?_
  refine X_geti dX8_copy_100 fkX8_34 rfl (k_10 hSh) ?_
  refine X_topi (show (up2 (cpR (cpR (cpR (cpR (cpR (cpR mi 11 4 8) 12 5 8) 13 6 8) 14 7 8) 15 8 8) 16 9 8) 3 9 (mi 10 9)) 10 10 = mi 10 10 by rw [up2_row (by omega)]; exact (show (cpR (cpR (cpR (cpR (cpR (cpR mi 11 4 8) 12 5 8) 13 6 8) 14 7 8) 15 8 8) 16 9 8) 10 10 = mi 10 10 by rw [cpR_row (by omega), cpR_row (by omega), cpR_row (by omega), cpR_row (by omega), cpR_row (by omega), cpR_row (by omega)])) ?_
  refine X_puti dX8_copy_103 fkX8_34 rfl rfl (k_3 hSh) ?_
  refine X_aload_n dX8_copy_106 rfl ?_
  refine X_aload_n dX8_copy_107 rfl ?_
  refine X_geti dX8_copy_108 fkX8_37 rfl (k_10 hSh) ?_
  refine X_topi (show (up2 (up2 (cpR (cpR (cpR (cpR (cpR (cpR mi 11 4 8) 12 5 8) 13 6 8) 14 7 8) 15 8 8) 16 9 8) 3 9 (mi 10 9)) 3 10 (mi 10 10)) 10 6 = mi 10 6 by rw [up2_row (by omega), up2_row (by omega)]; exact (show (cpR (cpR (cpR (cpR (cpR (cpR mi 11 4 8) 12 5 8) 13 6 8) 14 7 8) 15 8 8) 16 9 8) 10 6 = mi 10 6 by rw [cpR_row (by omega), cpR_row (by omega), cpR_row (by omega), cpR_row (by omega), cpR_row (by omega), cpR_row (by omega)])) ?_
  refine X_puti dX8_copy_111 fkX8_37 rfl rfl (k_3 hSh) ?_
  refine X_aload_n dX8_copy_114 rfl ?_
  refine X_aload_n dX8_copy_115 rfl ?_
  refine X_geti dX8_copy_116 fkX8_40 rfl (k_10 hSh) ?_
  refine X_topi (show (up2 (up2 (up2 (cpR (cpR (cpR (cpR (cpR (cpR mi 11 4 8) 12 5 8) 13 6 8) 14 7 8) 15 8 8) 16 9 8) 3 9 (mi 10 9)) 3 10 (mi 10 10)) 3 6 (mi 10 6)) 10 7 = mi 10 7 by rw [up2_row (by omega), up2_row (by omega), up2_row (by omega)]; exact (show (cpR (cpR (cpR (cpR (cpR (cpR mi 11 4 8) 12 5 8) 13 6 8) 14 7 8) 15 8 8) 16 9 8) 10 7 = mi 10 7 by rw [cpR_row (by omega), cpR_row (by omega), cpR_row (by omega), cpR_row (by omega), cpR_row (by omega), cpR_row (by omega)])) ?_
  refine X_puti dX8_copy_119 fkX8_40 rfl rfl (k_3 hSh) ?_
  refine X_aload_n dX8_copy_122 rfl ?_
  refine X_aload_n dX8_copy_123 rfl ?_
  refine X_geti dX8_copy_124 fkX8_43 rfl (k_10 hSh) ?_
  refine X_topi (show (up2 (up2 (up2 (up2 (cpR (cpR (cpR (cpR (cpR (cpR mi 11 4 8) 12 5 8) 13 6 8) 14 7 8) 15 8 8) 16 9 8) 3 9 (mi 10 9)) 3 10 (mi 10 10)) 3 6 (mi 10 6)) 3 7 (mi 10 7)) 10 8 = mi 10 8 by rw [up2_row (by omega), up2_row (by omega), up2_row (by omega), up2_row (by omega)]; exact (show (cpR (cpR (cpR (cpR (cpR (cpR mi 11 4 8) 12 5 8) 13 6 8) 14 7 8) 15 8 8) 16 9 8) 10 8 = mi 10 8 by rw [cpR_row (by omega), cpR_row (by omega), cpR_row (by omega), cpR_row (by omega), cpR_row (by omega), cpR_row (by omega)])) ?_
  refine X_puti dX8_copy_127 fkX8_43 rfl rfl (k_3 hSh) ?_
  exact X_vret dX8_copy_130 rfl ⟨rfl, rfl, ⟨fun j hj => ⟨by rw [up2_row (by omega), up2_row (by omega), up2_row (by omega), up2_row (by omega), up2_row (by omega), cpR_row (by omega), cpR_row (by omega), cpR_row (by omega), cpR_row (by omega), cpR_row (by omega), cpR_at hj], by rw [up2_row (by omega), up2_row (by omega), up2_row (by omega), up2_row (by omega), up2_row (by omega), cpR_row (by omega), cpR_row (by omega), cpR_row (by omega), cpR_row (by omega), cpR_at hj, cpR_row (by omega)], by rw [up2_row (by omega), up2_row (by omega), up2_row (by omega), up2_row (by omega), up2_row (by omega), cpR_row (by omega), cpR_row (by omega), cpR_row (by omega), cpR_at hj, cpR_row (by omega), cpR_row (by omega)], by rw [up2_row (by omega), up2_row (by omega), up2_row (by omega), up2_row (by omega), up2_row (by omega), cpR_row (by omega), cpR_row (by omega), cpR_at hj, cpR_row (by omega), cpR_row (by omega), cpR_row (by omega)], by rw [up2_row (by omega), up2_row (by omega), up2_row (by omega), up2_row (by omega), up2_row (by omega), cpR_row (by omega), cpR_at hj, cpR_row (by omega), cpR_row (by omega), cpR_row (by omega), cpR_row (by omega)], by rw [up2_row (by omega), up2_row (by omega), up2_row (by omega), up2_row (by omega), up2_row (by omega), cpR_at hj, cpR_row (by omega), cpR_row (by omega), cpR_row (by omega), cpR_row (by omega), cpR_row (by omega)]⟩, ⟨by rw [up2_n (by omega), up2_n (by omega), up2_n (by omega), up2_n (by omega), up2_s], by rw [up2_n (by omega), up2_n (by omega), up2_n (by omega), up2_s], by rw [up2_n (by omega), up2_n (by omega), up2_s], by rw [up2_n (by omega), up2_s], by rw [up2_s]⟩, fun i hi => by rw [up2_row (by omega), up2_row (by omega), up2_row (by omega), up2_row (by omega), up2_row (by omega), cpR_row (by omega), cpR_row (by omega), cpR_row (by omega), cpR_row (by omega), cpR_row (by omega), cpR_row (by omega)]⟩, rfl⟩
def HCL (m x : pMI) : Prop := (∀ o, o < 8 → x 19 o = nI 1 ∧ x 18 (o * 150) = nI 108) ∧ x 17 5 = nI 0 ∧ (∀ j, j ≠ 5 → x 17 j = m 17 j) ∧ ∀ i, i ≠ 17 → i ≠ 18 → i ≠ 19 → x i = m i
set_option maxRecDepth 100000 in
set_option maxHeartbeats 4000000 in
theorem c_Hclear (Γ : pTG) (g : pGG) (mi : pMI) (ml : pML) (hSh : Sh g)  : rV Γ 1 mX6_clear [.ref 17] g mi ml (fun m l => HCL mi m ∧ l = ml) := by
  refine rV_of (by decide +kernel) (Nat.le_of_ble_eq_true rfl) ?_
  refine X_aload_n dX6_clear_0 rfl ?_
  refine X_iconst (v := nI 0) dX6_clear_1 (by decide) ?_
  refine X_puti dX6_clear_2 fkX6_24 rfl rfl (k_17 hSh) ?_
  refine X_iconst (v := nI 0) dX6_clear_5 (by decide) ?_
  refine X_istore_n dX6_clear_6 (by decide) ?_
  refine X_L [(1, .int (nI 0)), (0, .ref 17)] ⟨rfl, rfl, trivial⟩ ?_
  refine X_forR (σ := pMI) 7 (fun i y => [(1, .int (nI i)), (0, .ref 17)]) (fun y => y) (fun y => ml) (fun i y => (∀ o, o < i → y 19 o = nI 1 ∧ y 18 (o * 150) = nI 108) ∧ y 17 5 = nI 0 ∧ (∀ j, j ≠ 5 → y 17 j = mi 17 j) ∧ ∀ a, a ≠ 17 → a ≠ 18 → a ≠ 19 → y a = mi a) 8 ?_ ?_ 8 0 ((up2 mi 17 5 (nI 0))) (by omega) ⟨fun o ho => absurd ho (by omega), up2_s, fun j hj => up2_n hj, fun a h1 _ _ => up2_row h1⟩
  · intro i y hi hI hn
    refine X_iload_n dX6_clear_7 rfl ?_
    refine X_bipush (v := nI 8) dX6_clear_8 (by decide) ?_
    refine X_icmp_geN (a := i) (b := 8) 38 dX6_clear_10 (by decide) (by omega) (by omega) (fun h_1 => ?_) (fun h_1 => ?_)
    · exact absurd hi (by omega)
    · refine X_aload_n dX6_clear_13 rfl ?_
      refine X_getr (a := 18) dX6_clear_14 fkX6_9 rfl (k_17 hSh) (r_17_0 hSh) ?_
      refine X_iload_n dX6_clear_17 rfl ?_
      refine X_sipush (v := nI 150) dX6_clear_18 (by decide) ?_
      refine X_imul dX6_clear_21 ?_
      refine X_topi (pk_mul i 150) ?_
      refine X_bipush (v := nI 108) dX6_clear_22 (by decide) ?_
      refine X_iast (i * 150) dX6_clear_24 (k_18 hSh) rfl (by omega) ?_
      refine X_aload_n dX6_clear_25 rfl ?_
      refine X_getr (a := 19) dX6_clear_26 fkX6_15 rfl (k_17 hSh) (r_17_1 hSh) ?_
      refine X_iload_n dX6_clear_29 rfl ?_
      refine X_iconst (v := nI 1) dX6_clear_30 (by decide) ?_
      refine X_iast i dX6_clear_31 (k_19 hSh) rfl (by omega) ?_
      refine X_iinc (v := nI (i + 1)) dX6_clear_32 rfl (nI_1 _) (by decide) ?_
      refine X_goto 7 dX6_clear_35 (by decide) ?_
      refine X_L [(1, .int (nI (i + 1))), (0, .ref 17)] ⟨rfl, rfl, trivial⟩ ?_
      refine hn _ ⟨fun o ho => ?_, by rw [up2_row (by omega), up2_row (by omega)]; exact hI.2.1, fun j hj => by rw [up2_row (by omega), up2_row (by omega)]; exact hI.2.2.1 j hj, fun a h1 h2 h3 => by rw [up2_row h3, up2_row h2]; exact hI.2.2.2 a h1 h2 h3⟩
      by_cases q : o = i
      · subst q; exact ⟨up2_s, by rw [up2_row (by omega), up2_s]⟩
      · have h9 := hI.1 o (by omega)
        exact ⟨by rw [up2_n q, up2_row (by omega)]; exact h9.1, by rw [up2_row (by omega), up2_n (by omega)]; exact h9.2⟩
  · intro y hI
    refine X_iload_n dX6_clear_7 rfl ?_
    refine X_bipush (v := nI 8) dX6_clear_8 (by decide) ?_
    refine X_icmp_geN (a := 8) (b := 8) 38 dX6_clear_10 (by decide) (by omega) (by omega) (fun h_2 => ?_) (fun h_2 => ?_)
    · exact X_vret dX6_clear_38 rfl ⟨rfl, rfl, hI, rfl⟩
    · exact absurd h_2 (by omega)
set_option maxRecDepth 100000 in
set_option maxHeartbeats 4000000 in
theorem c_tellsN (Γ : pTG) (g : pGG) (mi : pMI) (ml : pML) (hSh : Sh g)  : cV Γ 1 mX12_tellsNothing [.ref 87] g mi ml (up2 (fillR mi 90 5 (fun _ => nI 0)) 90 3 (nI 2)) ml := by
  refine cV_of (by decide +kernel) (Nat.le_of_ble_eq_true rfl) ?_
  refine X_iconst (v := nI 0) dX12_tellsNothing_0 (by decide) ?_
  refine X_istore_n dX12_tellsNothing_1 (by decide) ?_
  refine X_L [(1, .int (nI 0)), (0, .ref 87)] ⟨rfl, rfl, trivial⟩ ?_
  refine X_forR (σ := pMI) 2 (fun i y => [(1, .int (nI i)), (0, .ref 87)]) (fun y => y) (fun y => ml) (fun i y => y = fillR mi 90 i (fun _ => nI 0)) 5 ?_ ?_ 5 0 mi (by omega) (fill_0 _ _ _).symm
  · intro i y hi hI hn
    refine X_iload_n dX12_tellsNothing_2 rfl ?_
    refine X_iconst (v := nI 5) dX12_tellsNothing_3 (by decide) ?_
    refine X_icmp_geN (a := i) (b := 5) 20 dX12_tellsNothing_4 (by decide) (by omega) (by omega) (fun h_1 => ?_) (fun h_1 => ?_)
    · exact absurd hi (by omega)
    · refine X_aload_n dX12_tellsNothing_7 rfl ?_
      refine X_getr (a := 90) dX12_tellsNothing_8 fkX12_20 rfl (k_87 hSh) (r_87_11 hSh) ?_
      refine X_iload_n dX12_tellsNothing_11 rfl ?_
      refine X_iconst (v := nI 0) dX12_tellsNothing_12 (by decide) ?_
      refine X_iast i dX12_tellsNothing_13 (k_90 hSh) rfl (by omega) ?_
      refine X_iinc (v := nI (i + 1)) dX12_tellsNothing_14 rfl (nI_1 _) (by decide) ?_
      refine X_goto 2 dX12_tellsNothing_17 (by decide) ?_
      refine X_L [(1, .int (nI (i + 1))), (0, .ref 87)] ⟨rfl, rfl, trivial⟩ ?_
      refine hn _ ?_
      rw [hI]; exact fill_s _ _ _ _
  · intro y hI
    subst hI
    refine X_iload_n dX12_tellsNothing_2 rfl ?_
    refine X_iconst (v := nI 5) dX12_tellsNothing_3 (by decide) ?_
    refine X_icmp_geN (a := 5) (b := 5) 20 dX12_tellsNothing_4 (by decide) (by omega) (by omega) (fun h_2 => ?_) (fun h_2 => ?_)
    · refine X_aload_n dX12_tellsNothing_20 rfl ?_
      refine X_getr (a := 90) dX12_tellsNothing_21 fkX12_20 rfl (k_87 hSh) (r_87_11 hSh) ?_
      refine X_iconst (v := nI 3) dX12_tellsNothing_24 (by decide) ?_
      refine X_iconst (v := nI 2) dX12_tellsNothing_25 (by decide) ?_
      refine X_iast 3 dX12_tellsNothing_26 (k_90 hSh) rfl (by omega) ?_
      exact X_vret dX12_tellsNothing_27 rfl ⟨rfl, rfl, rfl, rfl⟩
    · exact absurd h_2 (by omega)

/-! ===== habits: steps one behind the other ===== -/
abbrev Tok : Type := Nat × Nat
def okTk (t : Tok) (n : Nat) : Prop := (t.1 = 0 ∧ t.2 < 100 ∧ n < 40) ∨ (t.1 = 1 ∧ t.2 < 11 ∧ n < 40) ∨ (2 ≤ t.1 ∧ t.1 ≤ 11 ∧ 2 ≤ n ∧ n ≤ 40) ∨ (t.1 = 12 ∧ 3 ≤ n ∧ n ≤ 40)
def tkM (R : Nat) (kn : Nat → Int32) (cnd : Int32 → Bool) (t : Tok) (s : pMI × Nat) : pMI × Nat :=
  if t.1 = 0 then (up2 s.1 R s.2 (nI t.2), s.2 + 1) else if t.1 = 1 then (up2 s.1 R s.2 (kn t.2), s.2 + 1)
  else if t.1 = 12 then (up2 s.1 R (s.2 - 3) (if cnd (s.1 R (s.2 - 3)) = true then s.1 R (s.2 - 2) else s.1 R (s.2 - 1)), s.2 - 2)
  else (up2 s.1 R (s.2 - 2) (byO t.1 (s.1 R (s.2 - 2)) (s.1 R (s.2 - 1))), s.2 - 1)
theorem tk_0 {R : Nat} {kn : Nat → Int32} {cnd : Int32 → Bool} {v : Nat} {s : pMI × Nat} : tkM R kn cnd (0, v) s = (up2 s.1 R s.2 (nI v), s.2 + 1) := if_pos rfl
theorem tk_1 {R : Nat} {kn : Nat → Int32} {cnd : Int32 → Bool} {v : Nat} {s : pMI × Nat} : tkM R kn cnd (1, v) s = (up2 s.1 R s.2 (kn v), s.2 + 1) := (if_neg (show ¬ (1 : Nat) = 0 by decide)).trans (if_pos rfl)
theorem tk_12 {R : Nat} {kn : Nat → Int32} {cnd : Int32 → Bool} {v : Nat} {s : pMI × Nat} : tkM R kn cnd (12, v) s = (up2 s.1 R (s.2 - 3) (if cnd (s.1 R (s.2 - 3)) = true then s.1 R (s.2 - 2) else s.1 R (s.2 - 1)), s.2 - 2) := (if_neg (show ¬ (12 : Nat) = 0 by decide)).trans ((if_neg (show ¬ (12 : Nat) = 1 by decide)).trans (if_pos rfl))
theorem tk_b {R : Nat} {kn : Nat → Int32} {cnd : Int32 → Bool} {op v : Nat} {s : pMI × Nat} (h1 : 2 ≤ op) (h2 : op ≤ 11) : tkM R kn cnd (op, v) s = (up2 s.1 R (s.2 - 2) (byO op (s.1 R (s.2 - 2)) (s.1 R (s.2 - 1))), s.2 - 1) := (if_neg (by dsimp only; omega)).trans ((if_neg (by dsimp only; omega)).trans (if_neg (by dsimp only; omega)))
theorem tk_row {R : Nat} {kn : Nat → Int32} {cnd : Int32 → Bool} {t : Tok} {s : pMI × Nat} {i : Nat} (h : i ≠ R) : (tkM R kn cnd t s).1 i = s.1 i := by
  unfold tkM
  split
  · exact up2_row h
  · split
    · exact up2_row h
    · split
      · exact up2_row h
      · exact up2_row h
def runL (R : Nat) (kn : Nat → Int32) (cnd : Int32 → Bool) : List Tok → pMI × Nat → pMI × Nat
  | [], s => s
  | t :: L, s => runL R kn cnd L (tkM R kn cnd t s)
def okRun (R : Nat) (kn : Nat → Int32) (cnd : Int32 → Bool) : List Tok → pMI × Nat → Prop
  | [], _ => True
  | t :: L, s => okTk t s.2 ∧ okRun R kn cnd L (tkM R kn cnd t s)
theorem run_app {R : Nat} {kn : Nat → Int32} {cnd : Int32 → Bool} : ∀ (A B : List Tok) (s : pMI × Nat), runL R kn cnd (A ++ B) s = runL R kn cnd B (runL R kn cnd A s)
  | [], _, _ => rfl
  | t :: A, B, s => run_app A B (tkM R kn cnd t s)
theorem okr_app {R : Nat} {kn : Nat → Int32} {cnd : Int32 → Bool} : ∀ (A B : List Tok) (s : pMI × Nat), okRun R kn cnd A s → okRun R kn cnd B (runL R kn cnd A s) → okRun R kn cnd (A ++ B) s
  | [], _, _, _, h => h
  | t :: A, B, s, h1, h2 => ⟨h1.1, okr_app A B (tkM R kn cnd t s) h1.2 h2⟩
/-- steps that make one value out of what is known -/
def Vx : Nat → List Tok → ((Nat → Int32) → Int32) → Nat → Prop
  | 0, _, _, _ => False
  | n + 1, L, f, d => (∃ v, v < 100 ∧ L = [(0, v)] ∧ (f = fun _ => nI v) ∧ 1 ≤ d) ∨ (∃ k, k < 11 ∧ L = [(1, k)] ∧ (f = fun kn => kn k) ∧ 1 ≤ d) ∨
    (∃ op A B fa fb da db, 2 ≤ op ∧ op ≤ 8 ∧ Vx n A fa da ∧ Vx n B fb db ∧ L = A ++ (B ++ [(op, 0)]) ∧ (f = fun kn => byO op (fa kn) (fb kn)) ∧ da ≤ d ∧ db + 1 ≤ d) ∨
    (∃ op A B C D fa fb fc fd da db dc dd, 9 ≤ op ∧ op ≤ 11 ∧ Vx n A fa da ∧ Vx n B fb db ∧ Vx n C fc dc ∧ Vx n D fd dd ∧ L = A ++ (B ++ ((op, 0) :: (C ++ (D ++ [(12, 0)])))) ∧ (f = fun kn => if byO op (fa kn) (fb kn) = nI 1 then fc kn else fd kn) ∧ da ≤ d ∧ db + 1 ≤ d ∧ dc + 1 ≤ d ∧ dd + 2 ≤ d)
theorem byO_01 {op : Nat} (h1 : 9 ≤ op) (h2 : op ≤ 11) (u v : Int32) : byO op u v = nI 1 ∨ byO op u v = nI 0 := by
  have : op = 9 ∨ op = 10 ∨ op = 11 := by omega
  rcases this with rfl | rfl | rfl
  · rw [byO_9]; split
    · exact Or.inl rfl
    · exact Or.inr rfl
  · rw [byO_10]; split
    · exact Or.inl rfl
    · exact Or.inr rfl
  · rw [byO_11]; split
    · exact Or.inl rfl
    · exact Or.inr rfl
theorem Vx_pos : ∀ (n : Nat) (L : List Tok) (f : (Nat → Int32) → Int32) (d : Nat), Vx n L f d → 1 ≤ d
  | 0, _, _, _, h => h.elim
  | n + 1, L, f, d, h => by
    rcases h with ⟨v, hv, _, _, hd⟩ | ⟨k, hk, _, _, hd⟩ | ⟨op, A, B, fa, fb, da, db, h1, h2, hA, hB, _, _, hda, hdb⟩ | ⟨op, A, B, C, D, fa, fb, fc, fd, da, db, dc, dd, h1, h2, hA, hB, hC, hD, _, _, hda, hdb, hdc, hdd⟩
    · exact hd
    · exact hd
    · have := Vx_pos n A fa da hA; omega
    · have := Vx_pos n A fa da hA; omega
theorem Vx_run {R : Nat} {kn : Nat → Int32} {cnd : Int32 → Bool} (hc1 : cnd (nI 1) = true) (hc0 : cnd (nI 0) = false) : ∀ (n : Nat) (L : List Tok) (f : (Nat → Int32) → Int32) (d : Nat), Vx n L f d → ∀ (m : pMI) (p : Nat), p + d ≤ 40 →
    okRun R kn cnd L (m, p) ∧ (runL R kn cnd L (m, p)).2 = p + 1 ∧ (runL R kn cnd L (m, p)).1 R p = f kn ∧ (∀ j, j < p → (runL R kn cnd L (m, p)).1 R j = m R j) ∧ (∀ i, i ≠ R → (runL R kn cnd L (m, p)).1 i = m i)
  | 0, _, _, _, h, _, _, _ => h.elim
  | n + 1, L, f, d, h, m, p, hp => by
    rcases h with ⟨v, hv, rfl, rfl, hd⟩ | ⟨k, hk, rfl, rfl, hd⟩ | ⟨op, A, B, fa, fb, da, db, h1, h2, hA, hB, rfl, rfl, hda, hdb⟩ | ⟨op, A, B, C, D, fa, fb, fc, fd, da, db, dc, dd, h1, h2, hA, hB, hC, hD, rfl, rfl, hda, hdb, hdc, hdd⟩
    · refine ⟨⟨Or.inl ⟨rfl, hv, by dsimp only; omega⟩, trivial⟩, ?_, ?_, fun j hj => ?_, fun i hi => ?_⟩
      · show (tkM R kn cnd (0, v) (m, p)).2 = _; rw [tk_0]
      · show (tkM R kn cnd (0, v) (m, p)).1 R p = _; rw [tk_0]; exact up2_s
      · show (tkM R kn cnd (0, v) (m, p)).1 R j = _; rw [tk_0]; exact up2_n (by omega)
      · show (tkM R kn cnd (0, v) (m, p)).1 i = _; exact tk_row hi
    · refine ⟨⟨Or.inr (Or.inl ⟨rfl, hk, by dsimp only; omega⟩), trivial⟩, ?_, ?_, fun j hj => ?_, fun i hi => ?_⟩
      · show (tkM R kn cnd (1, k) (m, p)).2 = _; rw [tk_1]
      · show (tkM R kn cnd (1, k) (m, p)).1 R p = _; rw [tk_1]; exact up2_s
      · show (tkM R kn cnd (1, k) (m, p)).1 R j = _; rw [tk_1]; exact up2_n (by omega)
      · show (tkM R kn cnd (1, k) (m, p)).1 i = _; exact tk_row hi
    · have hpb := Vx_pos n B fb db hB
      obtain ⟨a1, a2, a3, a4, a5⟩ := Vx_run hc1 hc0 n A fa da hA m p (by omega)
      rw [run_app, run_app]
      have hok : ∀ X, okRun R kn cnd X (runL R kn cnd A (m, p)) → okRun R kn cnd (A ++ X) (m, p) := fun X h => okr_app A X _ a1 h
      generalize runL R kn cnd A (m, p) = s1 at a2 a3 a4 a5 hok ⊢
      obtain ⟨m1, p1⟩ := s1
      dsimp only at a2 a3 a4 a5
      subst a2
      obtain ⟨b1, b2, b3, b4, b5⟩ := Vx_run hc1 hc0 n B fb db hB m1 (p + 1) (by omega)
      have hok2 : ∀ X, okRun R kn cnd X (runL R kn cnd B (m1, p + 1)) → okRun R kn cnd (B ++ X) (m1, p + 1) := fun X h => okr_app B X _ b1 h
      generalize runL R kn cnd B (m1, p + 1) = s2 at b2 b3 b4 b5 hok2 ⊢
      obtain ⟨m2, p2⟩ := s2
      dsimp only at b2 b3 b4 b5
      subst b2
      have e : runL R kn cnd [(op, 0)] (m2, p + 1 + 1) = (up2 m2 R p (byO op (m2 R p) (m2 R (p + 1))), p + 1) := by
        show tkM R kn cnd (op, 0) (m2, p + 1 + 1) = _
        rw [tk_b h1 (by omega)]
        dsimp only
        rw [show p + 1 + 1 - 2 = p by omega, show p + 1 + 1 - 1 = p + 1 by omega]
      refine ⟨hok _ (hok2 _ ⟨Or.inr (Or.inr (Or.inl ⟨h1, by dsimp only; omega, by dsimp only; omega, by dsimp only; omega⟩)), trivial⟩), ?_, ?_, fun j hj => ?_, fun i hi => ?_⟩
      · rw [e]
      · rw [e]; dsimp only; rw [up2_s, b3, b4 p (by omega), a3]
      · rw [e]; dsimp only; rw [up2_n (by omega), b4 j (by omega), a4 j hj]
      · rw [e]; dsimp only; rw [up2_row hi, b5 i hi, a5 i hi]
    · have hpb := Vx_pos n D fd dd hD
      obtain ⟨a1, a2, a3, a4, a5⟩ := Vx_run hc1 hc0 n A fa da hA m p (by omega)
      have hok : ∀ X, okRun R kn cnd X (runL R kn cnd A (m, p)) → okRun R kn cnd (A ++ X) (m, p) := fun X h => okr_app A X _ a1 h
      rw [run_app, run_app]
      generalize runL R kn cnd A (m, p) = s1 at a2 a3 a4 a5 hok ⊢
      obtain ⟨m1, p1⟩ := s1
      dsimp only at a2 a3 a4 a5
      subst a2
      obtain ⟨b1, b2, b3, b4, b5⟩ := Vx_run hc1 hc0 n B fb db hB m1 (p + 1) (by omega)
      have hok2 : ∀ X, okRun R kn cnd X (runL R kn cnd B (m1, p + 1)) → okRun R kn cnd (B ++ X) (m1, p + 1) := fun X h => okr_app B X _ b1 h
      generalize runL R kn cnd B (m1, p + 1) = s2 at b2 b3 b4 b5 hok2 ⊢
      obtain ⟨m2, p2⟩ := s2
      dsimp only at b2 b3 b4 b5
      subst b2
      have e : tkM R kn cnd (op, 0) (m2, p + 1 + 1) = (up2 m2 R p (byO op (m2 R p) (m2 R (p + 1))), p + 1) := by
        rw [tk_b (by omega) h2]
        dsimp only
        rw [show p + 1 + 1 - 2 = p by omega, show p + 1 + 1 - 1 = p + 1 by omega]
      have e0 : ∀ X, runL R kn cnd ((op, 0) :: X) (m2, p + 1 + 1) = runL R kn cnd X (up2 m2 R p (byO op (m2 R p) (m2 R (p + 1))), p + 1) := fun X => by
        show runL R kn cnd X (tkM R kn cnd (op, 0) (m2, p + 1 + 1)) = _
        rw [e]
      have hok3 : ∀ X, okRun R kn cnd X (up2 m2 R p (byO op (m2 R p) (m2 R (p + 1))), p + 1) → okRun R kn cnd ((op, 0) :: X) (m2, p + 1 + 1) := fun X h => ⟨Or.inr (Or.inr (Or.inl ⟨by dsimp only; omega, by dsimp only; omega, by dsimp only; omega, by dsimp only; omega⟩)), by rw [e]; exact h⟩
      rw [e0, run_app, run_app]
      have hm3p : (up2 m2 R p (byO op (m2 R p) (m2 R (p + 1)))) R p = byO op (fa kn) (fb kn) := by rw [up2_s, b3, b4 p (by omega), a3]
      have hm3j : ∀ j, j < p → (up2 m2 R p (byO op (m2 R p) (m2 R (p + 1)))) R j = m R j := fun j hj => by rw [up2_n (by omega), b4 j (by omega), a4 j hj]
      have hm3i : ∀ i, i ≠ R → (up2 m2 R p (byO op (m2 R p) (m2 R (p + 1)))) i = m i := fun i hi => by rw [up2_row hi, b5 i hi, a5 i hi]
      generalize up2 m2 R p (byO op (m2 R p) (m2 R (p + 1))) = m3 at hm3p hm3j hm3i hok3 ⊢
      obtain ⟨c1, c2, c3, c4, c5⟩ := Vx_run hc1 hc0 n C fc dc hC m3 (p + 1) (by omega)
      have hok4 : ∀ X, okRun R kn cnd X (runL R kn cnd C (m3, p + 1)) → okRun R kn cnd (C ++ X) (m3, p + 1) := fun X h => okr_app C X _ c1 h
      generalize runL R kn cnd C (m3, p + 1) = s4 at c2 c3 c4 c5 hok4 ⊢
      obtain ⟨m4, p4⟩ := s4
      dsimp only at c2 c3 c4 c5
      subst c2
      obtain ⟨d1, d2, d3, d4, d5⟩ := Vx_run hc1 hc0 n D fd dd hD m4 (p + 1 + 1) (by omega)
      have hok5 : ∀ X, okRun R kn cnd X (runL R kn cnd D (m4, p + 1 + 1)) → okRun R kn cnd (D ++ X) (m4, p + 1 + 1) := fun X h => okr_app D X _ d1 h
      generalize runL R kn cnd D (m4, p + 1 + 1) = s5 at d2 d3 d4 d5 hok5 ⊢
      obtain ⟨m5, p5⟩ := s5
      dsimp only at d2 d3 d4 d5
      subst d2
      have e5 : runL R kn cnd [(12, 0)] (m5, p + 1 + 1 + 1) = (up2 m5 R p (if cnd (m5 R p) = true then m5 R (p + 1) else m5 R (p + 1 + 1)), p + 1) := by
        show tkM R kn cnd (12, 0) (m5, p + 1 + 1 + 1) = _
        rw [tk_12]
        dsimp only
        rw [show p + 1 + 1 + 1 - 3 = p by omega, show p + 1 + 1 + 1 - 2 = p + 1 by omega, show p + 1 + 1 + 1 - 1 = p + 1 + 1 by omega]
      refine ⟨hok _ (hok2 _ (hok3 _ (hok4 _ (hok5 _ ⟨Or.inr (Or.inr (Or.inr ⟨rfl, by dsimp only; omega, by dsimp only; omega⟩)), trivial⟩)))), ?_, ?_, fun j hj => ?_, fun i hi => ?_⟩
      · rw [e5]
      · rw [e5]
        dsimp only
        rw [up2_s, d4 p (by omega), c4 p (by omega), hm3p, d4 (p + 1) (by omega), c3, d3]
        rcases byO_01 h1 h2 (fa kn) (fb kn) with q | q
        · rw [q, hc1, if_pos rfl, if_pos rfl]
        · rw [q, hc0, if_neg (by decide), if_neg (by decide)]
      · rw [e5]; dsimp only; rw [up2_n (by omega), d4 j (by omega), c4 j (by omega), hm3j j hj]
      · rw [e5]; dsimp only; rw [up2_row hi, d5 i hi, c5 i hi, hm3i i hi]
theorem lp_run {R : Nat} {kn : Nat → Int32} {cnd : Int32 → Bool} : ∀ (L : List Tok) (g : Nat → Tok) (k : Nat) (s : pMI × Nat), (∀ i, i < L.length → g (k + i) = L.getD i (0, 0)) → lpS (fun i s => tkM R kn cnd (g i) s) k L.length s = runL R kn cnd L s ∧ (okRun R kn cnd L s → ∀ i, i < L.length → okTk (g (k + i)) (lpS (fun i s => tkM R kn cnd (g i) s) k i s).2)
  | [], g, k, s, _ => ⟨rfl, fun _ i hi => absurd hi (Nat.not_lt_zero _)⟩
  | t :: L, g, k, s, h => by
    have h0 : g k = t := h 0 (Nat.succ_pos _)
    have ih := lp_run (R := R) (kn := kn) (cnd := cnd) L g (k + 1) (tkM R kn cnd t s) (fun i hi => by
      have := h (i + 1) (Nat.succ_lt_succ hi)
      rw [show k + 1 + i = k + (i + 1) by omega, this]
      rfl)
    refine ⟨?_, fun hok i hi => ?_⟩
    · show lpS (fun i s => tkM R kn cnd (g i) s) (k + 1) L.length (tkM R kn cnd (g k) s) = runL R kn cnd L (tkM R kn cnd t s)
      rw [h0]; exact ih.1
    · cases i with
      | zero =>
        show okTk (g k) s.2
        rw [h0]; exact hok.1
      | succ i =>
        show okTk (g (k + (i + 1))) (lpS (fun i s => tkM R kn cnd (g i) s) (k + 1) i (tkM R kn cnd (g k) s)).2
        rw [h0, show k + (i + 1) = k + 1 + i by omega]
        exact ih.2 hok.2 i (Nat.lt_of_succ_lt_succ hi)
def clH (v : Int32) : Int32 := if v < nI 0 then nI 0 else if nI 23 < v then nI 23 else v
theorem pw_a {m : pMI} {n : Nat} {v : Int32} : up2 (up2 (up2 m 17 4 (nI n)) 21 n v) 17 4 (nI (n + 1)) = up2 (up2 m 21 n v) 17 4 (nI (n + 1)) := by
  funext a b
  unfold up2
  by_cases h1 : a = 17 ∧ b = 4
  · simp only [if_pos h1]
  · simp only [if_neg h1]
theorem pw_b {m : pMI} {n : Nat} {v : Int32} : (up2 (up2 m 17 4 (nI n)) 21 n v) 17 4 = nI n := by rw [up2_row (by omega)]; exact up2_s
theorem pw_c {m : pMI} {n : Nat} {j : Nat} : (up2 m 17 4 (nI n)) 21 j = m 21 j := by rw [up2_row (by omega)]
theorem pw_d {m : pMI} {n : Nat} {j : Nat} : (up2 m 17 4 (nI n)) 20 j = m 20 j := by rw [up2_row (by omega)]
set_option maxRecDepth 100000 in
set_option maxHeartbeats 4000000 in
theorem c_push (Γ : pTG) (g : pGG) (mi : pMI) (ml : pML) (hSh : Sh g) (n : Nat) (hn : n < 40) (v : Int32) : cV Γ 1 mX6_push [.ref 17, .int v] g (up2 mi 17 4 (nI n)) ml (up2 (up2 mi 21 n v) 17 4 (nI (n + 1))) ml := by
  refine cV_of (by decide +kernel) (Nat.le_of_ble_eq_true rfl) ?_
  refine X_aload_n dX6_push_0 rfl ?_
  refine X_geti dX6_push_1 fkX6_90 rfl (k_17 hSh) ?_
  rw [up2_s]
  refine X_aload_n dX6_push_4 rfl ?_
  refine X_getr (a := 21) dX6_push_5 fkX6_21 rfl (k_17 hSh) (r_17_3 hSh) ?_
  refine X_alen (len := 40) dX6_push_8 (k_21 hSh) (by decide) ?_
  refine X_icmp_geN (a := n) (b := 40) 32 dX6_push_9 (by decide) (by omega) (by omega) (fun h_1 => ?_) (fun h_1 => ?_)
  · exact absurd h_1 (by omega)
  · refine X_aload_n dX6_push_12 rfl ?_
    refine X_getr (a := 21) dX6_push_13 fkX6_21 rfl (k_17 hSh) (r_17_3 hSh) ?_
    refine X_aload_n dX6_push_16 rfl ?_
    refine X_geti dX6_push_17 fkX6_90 rfl (k_17 hSh) ?_
    rw [up2_s]
    refine X_iload_n dX6_push_20 rfl ?_
    refine X_iast n dX6_push_21 (k_21 hSh) rfl (by omega) ?_
    refine X_aload_n dX6_push_22 rfl ?_
    refine X_dup dX6_push_23 rfl ?_
    refine X_geti dX6_push_24 fkX6_90 rfl (k_17 hSh) ?_
    rw [pw_b]
    refine X_iconst (v := nI 1) dX6_push_27 (by decide) ?_
    refine X_iadd dX6_push_28 ?_
    refine X_topi (nI_add n 1) ?_
    refine X_puti dX6_push_29 fkX6_90 rfl rfl (k_17 hSh) ?_
    exact X_vret dX6_push_32 rfl ⟨rfl, rfl, by rw [pw_a], rfl⟩
set_option maxRecDepth 100000 in
set_option maxHeartbeats 4000000 in
theorem c_pop (Γ : pTG) (g : pGG) (mi : pMI) (ml : pML) (hSh : Sh g) (n : Nat) (hn : 1 ≤ n) (hn2 : n ≤ 40) : cI Γ 1 mX6_pop [.ref 17] g (up2 mi 17 4 (nI n)) ml (mi 21 (n - 1)) (up2 mi 17 4 (nI (n - 1))) := by
  refine cI_of (by decide +kernel) (Nat.le_of_ble_eq_true rfl) ?_
  refine X_aload_n dX6_pop_0 rfl ?_
  refine X_geti dX6_pop_1 fkX6_90 rfl (k_17 hSh) ?_
  rw [up2_s]
  refine X_if_neN (a := n) 9 dX6_pop_4 (by decide) (by omega) (fun h_1 => ?_) (fun h_1 => ?_)
  · refine X_aload_n dX6_pop_9 rfl ?_
    refine X_dup dX6_pop_10 rfl ?_
    refine X_geti dX6_pop_11 fkX6_90 rfl (k_17 hSh) ?_
    rw [up2_s]
    refine X_iconst (v := nI 1) dX6_pop_14 (by decide) ?_
    refine X_isub dX6_pop_15 ?_
    refine X_topi (pk_sub (a := n) (b := 1) (by omega)) ?_
    refine X_puti dX6_pop_16 fkX6_90 rfl rfl (k_17 hSh) ?_
    refine X_aload_n dX6_pop_19 rfl ?_
    refine X_getr (a := 21) dX6_pop_20 fkX6_21 rfl (k_17 hSh) (r_17_3 hSh) ?_
    refine X_aload_n dX6_pop_23 rfl ?_
    refine X_geti dX6_pop_24 fkX6_90 rfl (k_17 hSh) ?_
    rw [up2_s]
    refine X_iald (n - 1) dX6_pop_27 (k_21 hSh) rfl (by omega) ?_
    exact X_iret dX6_pop_28 rfl ⟨by rw [up2_row (by omega), up2_row (by omega)], rfl, up2_up2, rfl⟩
  · exact absurd h_1 (by omega)
set_option maxRecDepth 100000 in
set_option maxHeartbeats 4000000 in
theorem c_take0 (Γ : pTG) (g : pGG) (mi : pMI) (ml : pML) (hSh : Sh g) (n v : Nat) (hn : n < 40) (hv : v < 100) : cV Γ 2 mX6_take [.ref 17, .int (nI v)] g (up2 mi 17 4 (nI n)) ml (up2 (tkM 21 (mi 20) (fun v => !decide (v = 0)) (0, v) (mi, n)).1 17 4 (nI (tkM 21 (mi 20) (fun v => !decide (v = 0)) (0, v) (mi, n)).2)) ml := by
  refine cV_of (by decide +kernel) (Nat.le_of_ble_eq_true rfl) ?_
  refine X_iload_n dX6_take_0 rfl ?_
  refine X_bipush (v := nI 100) dX6_take_1 (by decide) ?_
  refine X_icmp_geN (a := v) (b := 100) 14 dX6_take_3 (by decide) (by omega) (by omega) (fun h_1 => ?_) (fun h_1 => ?_)
  · exact absurd h_1 (by omega)
  · refine X_aload_n dX6_take_6 rfl ?_
    refine X_iload_n dX6_take_7 rfl ?_
    refine X_callVV dX6_take_8 mkX6_100 (k_17 hSh) (c_push Γ g mi ml hSh n (by omega) (nI v)) rfl rfl (by decide) (Nat.le_of_ble_eq_true rfl) ?_
    refine X_goto 83 dX6_take_11 (by decide) ?_
    exact X_vret dX6_take_83 rfl ⟨rfl, rfl, by rw [tk_0], rfl⟩
set_option maxRecDepth 100000 in
set_option maxHeartbeats 4000000 in
theorem c_take1 (Γ : pTG) (g : pGG) (mi : pMI) (ml : pML) (hSh : Sh g) (n k : Nat) (hn : n < 40) (hk : k < 11) : cV Γ 2 mX6_take [.ref 17, .int (nI (100 + k))] g (up2 mi 17 4 (nI n)) ml (up2 (tkM 21 (mi 20) (fun v => !decide (v = 0)) (1, k) (mi, n)).1 17 4 (nI (tkM 21 (mi 20) (fun v => !decide (v = 0)) (1, k) (mi, n)).2)) ml := by
  refine cV_of (by decide +kernel) (Nat.le_of_ble_eq_true rfl) ?_
  refine X_iload_n dX6_take_0 rfl ?_
  refine X_bipush (v := nI 100) dX6_take_1 (by decide) ?_
  refine X_icmp_geN (a := 100 + k) (b := 100) 14 dX6_take_3 (by decide) (by omega) (by omega) (fun h_1 => ?_) (fun h_1 => ?_)
  · refine X_iload_n dX6_take_14 rfl ?_
    refine X_sipush (v := nI 200) dX6_take_15 (by decide) ?_
    refine X_icmp_geN (a := 100 + k) (b := 200) 37 dX6_take_18 (by decide) (by omega) (by omega) (fun h_2 => ?_) (fun h_2 => ?_)
    · exact absurd h_2 (by omega)
    · refine X_aload_n dX6_take_21 rfl ?_
      refine X_aload_n dX6_take_22 rfl ?_
      refine X_getr (a := 20) dX6_take_23 fkX6_18 rfl (k_17 hSh) (r_17_2 hSh) ?_
      refine X_iload_n dX6_take_26 rfl ?_
      refine X_bipush (v := nI 100) dX6_take_27 (by decide) ?_
      refine X_isub dX6_take_29 ?_
      refine X_topi (pk_sub (a := 100 + k) (b := 100) (by omega)) ?_
      refine X_iald ((100 + k) - 100) dX6_take_30 (k_20 hSh) rfl (by omega) ?_
      refine X_callVV dX6_take_31 mkX6_100 (k_17 hSh) (c_push Γ g mi ml hSh n (by omega) ((up2 mi 17 4 (nI n)) 20 ((100 + k) - 100))) rfl rfl (by decide) (Nat.le_of_ble_eq_true rfl) ?_
      refine X_goto 83 dX6_take_34 (by decide) ?_
      exact X_vret dX6_take_83 rfl ⟨rfl, rfl, by rw [tk_1]; dsimp only; rw [pw_d, show 100 + k - 100 = k by omega], rfl⟩
  · exact absurd h_1 (by omega)
set_option maxRecDepth 100000 in
set_option maxHeartbeats 4000000 in
theorem c_takeb2 (Γ : pTG) (g : pGG) (mi : pMI) (ml : pML) (hSh : Sh g) (n : Nat) (hn : 2 ≤ n) (hn2 : n ≤ 40) : cV Γ 2 mX6_take [.ref 17, .int (nI 200)] g (up2 mi 17 4 (nI n)) ml (up2 (tkM 21 (mi 20) (fun v => !decide (v = 0)) (2, 0) (mi, n)).1 17 4 (nI (tkM 21 (mi 20) (fun v => !decide (v = 0)) (2, 0) (mi, n)).2)) ml := by
  refine cV_of (by decide +kernel) (Nat.le_of_ble_eq_true rfl) ?_
  refine X_iload_n dX6_take_0 rfl ?_
  refine X_bipush (v := nI 100) dX6_take_1 (by decide) ?_
  refine X_icmp_geN (a := 200) (b := 100) 14 dX6_take_3 (by decide) (by omega) (by omega) (fun h_1 => ?_) (fun h_1 => ?_)
  · refine X_iload_n dX6_take_14 rfl ?_
    refine X_sipush (v := nI 200) dX6_take_15 (by decide) ?_
    refine X_icmp_geN (a := 200) (b := 200) 37 dX6_take_18 (by decide) (by omega) (by omega) (fun h_2 => ?_) (fun h_2 => ?_)
    · refine X_aload_n dX6_take_37 rfl ?_
      refine X_callVI dX6_take_38 mkX6_97 (k_17 hSh) (c_pop Γ g mi ml hSh (n) (by omega) (by omega)) rfl rfl (by decide) (Nat.le_of_ble_eq_true rfl) ?_
      refine X_istore_n dX6_take_41 (by decide) ?_
      refine X_aload_n dX6_take_42 rfl ?_
      refine X_callVI dX6_take_43 mkX6_97 (k_17 hSh) (c_pop Γ g mi ml hSh (n - 1) (by omega) (by omega)) rfl rfl (by decide) (Nat.le_of_ble_eq_true rfl) ?_
      refine X_istore_n dX6_take_46 (by decide) ?_
      refine X_iload_n dX6_take_47 rfl ?_
      refine X_sipush (v := nI 210) dX6_take_48 (by decide) ?_
      refine X_icmp_neN (a := 200) (b := 210) 73 dX6_take_51 (by decide) (by omega) (by omega) (fun h_3 => ?_) (fun h_3 => ?_)
      · refine X_aload_n dX6_take_73 rfl ?_
        refine X_iload_n dX6_take_74 rfl ?_
        refine X_iload_n dX6_take_75 rfl ?_
        refine X_iload_n dX6_take_76 rfl ?_
        refine X_callSI dX6_take_77 mkX6_103 (c_join2 Γ g (up2 mi 17 4 (nI (n - 1 - 1))) ml (mi 21 (n - 1 - 1)) (mi 21 (n - 1))) rfl rfl (by decide) (Nat.le_of_ble_eq_true rfl) ?_
        refine X_callVV dX6_take_80 mkX6_100 (k_17 hSh) (c_push Γ g mi ml hSh (n - 1 - 1) (by omega) (byO 2 (mi 21 (n - 1 - 1)) (mi 21 (n - 1)))) rfl rfl (by decide) (Nat.le_of_ble_eq_true rfl) ?_
        exact X_vret dX6_take_83 rfl ⟨rfl, rfl, by rw [tk_b (by decide) (by decide)]; dsimp only; rw [show n - 1 - 1 = n - 2 by omega, show n - 2 + 1 = n - 1 by omega], rfl⟩
      · exact absurd h_3 (by decide)
    · exact absurd h_2 (by decide)
  · exact absurd h_1 (by decide)
set_option maxRecDepth 100000 in
set_option maxHeartbeats 4000000 in
theorem c_takeb3 (Γ : pTG) (g : pGG) (mi : pMI) (ml : pML) (hSh : Sh g) (n : Nat) (hn : 2 ≤ n) (hn2 : n ≤ 40) : cV Γ 2 mX6_take [.ref 17, .int (nI 201)] g (up2 mi 17 4 (nI n)) ml (up2 (tkM 21 (mi 20) (fun v => !decide (v = 0)) (3, 0) (mi, n)).1 17 4 (nI (tkM 21 (mi 20) (fun v => !decide (v = 0)) (3, 0) (mi, n)).2)) ml := by
  refine cV_of (by decide +kernel) (Nat.le_of_ble_eq_true rfl) ?_
  refine X_iload_n dX6_take_0 rfl ?_
  refine X_bipush (v := nI 100) dX6_take_1 (by decide) ?_
  refine X_icmp_geN (a := 201) (b := 100) 14 dX6_take_3 (by decide) (by omega) (by omega) (fun h_1 => ?_) (fun h_1 => ?_)
  · refine X_iload_n dX6_take_14 rfl ?_
    refine X_sipush (v := nI 200) dX6_take_15 (by decide) ?_
    refine X_icmp_geN (a := 201) (b := 200) 37 dX6_take_18 (by decide) (by omega) (by omega) (fun h_2 => ?_) (fun h_2 => ?_)
    · refine X_aload_n dX6_take_37 rfl ?_
      refine X_callVI dX6_take_38 mkX6_97 (k_17 hSh) (c_pop Γ g mi ml hSh (n) (by omega) (by omega)) rfl rfl (by decide) (Nat.le_of_ble_eq_true rfl) ?_
      refine X_istore_n dX6_take_41 (by decide) ?_
      refine X_aload_n dX6_take_42 rfl ?_
      refine X_callVI dX6_take_43 mkX6_97 (k_17 hSh) (c_pop Γ g mi ml hSh (n - 1) (by omega) (by omega)) rfl rfl (by decide) (Nat.le_of_ble_eq_true rfl) ?_
      refine X_istore_n dX6_take_46 (by decide) ?_
      refine X_iload_n dX6_take_47 rfl ?_
      refine X_sipush (v := nI 210) dX6_take_48 (by decide) ?_
      refine X_icmp_neN (a := 201) (b := 210) 73 dX6_take_51 (by decide) (by omega) (by omega) (fun h_3 => ?_) (fun h_3 => ?_)
      · refine X_aload_n dX6_take_73 rfl ?_
        refine X_iload_n dX6_take_74 rfl ?_
        refine X_iload_n dX6_take_75 rfl ?_
        refine X_iload_n dX6_take_76 rfl ?_
        refine X_callSI dX6_take_77 mkX6_103 (c_join3 Γ g (up2 mi 17 4 (nI (n - 1 - 1))) ml (mi 21 (n - 1 - 1)) (mi 21 (n - 1))) rfl rfl (by decide) (Nat.le_of_ble_eq_true rfl) ?_
        refine X_callVV dX6_take_80 mkX6_100 (k_17 hSh) (c_push Γ g mi ml hSh (n - 1 - 1) (by omega) (byO 3 (mi 21 (n - 1 - 1)) (mi 21 (n - 1)))) rfl rfl (by decide) (Nat.le_of_ble_eq_true rfl) ?_
        exact X_vret dX6_take_83 rfl ⟨rfl, rfl, by rw [tk_b (by decide) (by decide)]; dsimp only; rw [show n - 1 - 1 = n - 2 by omega, show n - 2 + 1 = n - 1 by omega], rfl⟩
      · exact absurd h_3 (by decide)
    · exact absurd h_2 (by decide)
  · exact absurd h_1 (by decide)
set_option maxRecDepth 100000 in
set_option maxHeartbeats 4000000 in
theorem c_takeb4 (Γ : pTG) (g : pGG) (mi : pMI) (ml : pML) (hSh : Sh g) (n : Nat) (hn : 2 ≤ n) (hn2 : n ≤ 40) : cV Γ 2 mX6_take [.ref 17, .int (nI 202)] g (up2 mi 17 4 (nI n)) ml (up2 (tkM 21 (mi 20) (fun v => !decide (v = 0)) (4, 0) (mi, n)).1 17 4 (nI (tkM 21 (mi 20) (fun v => !decide (v = 0)) (4, 0) (mi, n)).2)) ml := by
  refine cV_of (by decide +kernel) (Nat.le_of_ble_eq_true rfl) ?_
  refine X_iload_n dX6_take_0 rfl ?_
  refine X_bipush (v := nI 100) dX6_take_1 (by decide) ?_
  refine X_icmp_geN (a := 202) (b := 100) 14 dX6_take_3 (by decide) (by omega) (by omega) (fun h_1 => ?_) (fun h_1 => ?_)
  · refine X_iload_n dX6_take_14 rfl ?_
    refine X_sipush (v := nI 200) dX6_take_15 (by decide) ?_
    refine X_icmp_geN (a := 202) (b := 200) 37 dX6_take_18 (by decide) (by omega) (by omega) (fun h_2 => ?_) (fun h_2 => ?_)
    · refine X_aload_n dX6_take_37 rfl ?_
      refine X_callVI dX6_take_38 mkX6_97 (k_17 hSh) (c_pop Γ g mi ml hSh (n) (by omega) (by omega)) rfl rfl (by decide) (Nat.le_of_ble_eq_true rfl) ?_
      refine X_istore_n dX6_take_41 (by decide) ?_
      refine X_aload_n dX6_take_42 rfl ?_
      refine X_callVI dX6_take_43 mkX6_97 (k_17 hSh) (c_pop Γ g mi ml hSh (n - 1) (by omega) (by omega)) rfl rfl (by decide) (Nat.le_of_ble_eq_true rfl) ?_
      refine X_istore_n dX6_take_46 (by decide) ?_
      refine X_iload_n dX6_take_47 rfl ?_
      refine X_sipush (v := nI 210) dX6_take_48 (by decide) ?_
      refine X_icmp_neN (a := 202) (b := 210) 73 dX6_take_51 (by decide) (by omega) (by omega) (fun h_3 => ?_) (fun h_3 => ?_)
      · refine X_aload_n dX6_take_73 rfl ?_
        refine X_iload_n dX6_take_74 rfl ?_
        refine X_iload_n dX6_take_75 rfl ?_
        refine X_iload_n dX6_take_76 rfl ?_
        refine X_callSI dX6_take_77 mkX6_103 (c_join4 Γ g (up2 mi 17 4 (nI (n - 1 - 1))) ml (mi 21 (n - 1 - 1)) (mi 21 (n - 1))) rfl rfl (by decide) (Nat.le_of_ble_eq_true rfl) ?_
        refine X_callVV dX6_take_80 mkX6_100 (k_17 hSh) (c_push Γ g mi ml hSh (n - 1 - 1) (by omega) (byO 4 (mi 21 (n - 1 - 1)) (mi 21 (n - 1)))) rfl rfl (by decide) (Nat.le_of_ble_eq_true rfl) ?_
        exact X_vret dX6_take_83 rfl ⟨rfl, rfl, by rw [tk_b (by decide) (by decide)]; dsimp only; rw [show n - 1 - 1 = n - 2 by omega, show n - 2 + 1 = n - 1 by omega], rfl⟩
      · exact absurd h_3 (by decide)
    · exact absurd h_2 (by decide)
  · exact absurd h_1 (by decide)
set_option maxRecDepth 100000 in
set_option maxHeartbeats 4000000 in
theorem c_takeb5 (Γ : pTG) (g : pGG) (mi : pMI) (ml : pML) (hSh : Sh g) (n : Nat) (hn : 2 ≤ n) (hn2 : n ≤ 40) : cV Γ 2 mX6_take [.ref 17, .int (nI 203)] g (up2 mi 17 4 (nI n)) ml (up2 (tkM 21 (mi 20) (fun v => !decide (v = 0)) (5, 0) (mi, n)).1 17 4 (nI (tkM 21 (mi 20) (fun v => !decide (v = 0)) (5, 0) (mi, n)).2)) ml := by
  refine cV_of (by decide +kernel) (Nat.le_of_ble_eq_true rfl) ?_
  refine X_iload_n dX6_take_0 rfl ?_
  refine X_bipush (v := nI 100) dX6_take_1 (by decide) ?_
  refine X_icmp_geN (a := 203) (b := 100) 14 dX6_take_3 (by decide) (by omega) (by omega) (fun h_1 => ?_) (fun h_1 => ?_)
  · refine X_iload_n dX6_take_14 rfl ?_
    refine X_sipush (v := nI 200) dX6_take_15 (by decide) ?_
    refine X_icmp_geN (a := 203) (b := 200) 37 dX6_take_18 (by decide) (by omega) (by omega) (fun h_2 => ?_) (fun h_2 => ?_)
    · refine X_aload_n dX6_take_37 rfl ?_
      refine X_callVI dX6_take_38 mkX6_97 (k_17 hSh) (c_pop Γ g mi ml hSh (n) (by omega) (by omega)) rfl rfl (by decide) (Nat.le_of_ble_eq_true rfl) ?_
      refine X_istore_n dX6_take_41 (by decide) ?_
      refine X_aload_n dX6_take_42 rfl ?_
      refine X_callVI dX6_take_43 mkX6_97 (k_17 hSh) (c_pop Γ g mi ml hSh (n - 1) (by omega) (by omega)) rfl rfl (by decide) (Nat.le_of_ble_eq_true rfl) ?_
      refine X_istore_n dX6_take_46 (by decide) ?_
      refine X_iload_n dX6_take_47 rfl ?_
      refine X_sipush (v := nI 210) dX6_take_48 (by decide) ?_
      refine X_icmp_neN (a := 203) (b := 210) 73 dX6_take_51 (by decide) (by omega) (by omega) (fun h_3 => ?_) (fun h_3 => ?_)
      · refine X_aload_n dX6_take_73 rfl ?_
        refine X_iload_n dX6_take_74 rfl ?_
        refine X_iload_n dX6_take_75 rfl ?_
        refine X_iload_n dX6_take_76 rfl ?_
        refine X_callSI dX6_take_77 mkX6_103 (c_join5 Γ g (up2 mi 17 4 (nI (n - 1 - 1))) ml (mi 21 (n - 1 - 1)) (mi 21 (n - 1))) rfl rfl (by decide) (Nat.le_of_ble_eq_true rfl) ?_
        refine X_callVV dX6_take_80 mkX6_100 (k_17 hSh) (c_push Γ g mi ml hSh (n - 1 - 1) (by omega) (byO 5 (mi 21 (n - 1 - 1)) (mi 21 (n - 1)))) rfl rfl (by decide) (Nat.le_of_ble_eq_true rfl) ?_
        exact X_vret dX6_take_83 rfl ⟨rfl, rfl, by rw [tk_b (by decide) (by decide)]; dsimp only; rw [show n - 1 - 1 = n - 2 by omega, show n - 2 + 1 = n - 1 by omega], rfl⟩
      · exact absurd h_3 (by decide)
    · exact absurd h_2 (by decide)
  · exact absurd h_1 (by decide)
set_option maxRecDepth 100000 in
set_option maxHeartbeats 4000000 in
theorem c_takeb6 (Γ : pTG) (g : pGG) (mi : pMI) (ml : pML) (hSh : Sh g) (n : Nat) (hn : 2 ≤ n) (hn2 : n ≤ 40) : cV Γ 2 mX6_take [.ref 17, .int (nI 204)] g (up2 mi 17 4 (nI n)) ml (up2 (tkM 21 (mi 20) (fun v => !decide (v = 0)) (6, 0) (mi, n)).1 17 4 (nI (tkM 21 (mi 20) (fun v => !decide (v = 0)) (6, 0) (mi, n)).2)) ml := by
  refine cV_of (by decide +kernel) (Nat.le_of_ble_eq_true rfl) ?_
  refine X_iload_n dX6_take_0 rfl ?_
  refine X_bipush (v := nI 100) dX6_take_1 (by decide) ?_
  refine X_icmp_geN (a := 204) (b := 100) 14 dX6_take_3 (by decide) (by omega) (by omega) (fun h_1 => ?_) (fun h_1 => ?_)
  · refine X_iload_n dX6_take_14 rfl ?_
    refine X_sipush (v := nI 200) dX6_take_15 (by decide) ?_
    refine X_icmp_geN (a := 204) (b := 200) 37 dX6_take_18 (by decide) (by omega) (by omega) (fun h_2 => ?_) (fun h_2 => ?_)
    · refine X_aload_n dX6_take_37 rfl ?_
      refine X_callVI dX6_take_38 mkX6_97 (k_17 hSh) (c_pop Γ g mi ml hSh (n) (by omega) (by omega)) rfl rfl (by decide) (Nat.le_of_ble_eq_true rfl) ?_
      refine X_istore_n dX6_take_41 (by decide) ?_
      refine X_aload_n dX6_take_42 rfl ?_
      refine X_callVI dX6_take_43 mkX6_97 (k_17 hSh) (c_pop Γ g mi ml hSh (n - 1) (by omega) (by omega)) rfl rfl (by decide) (Nat.le_of_ble_eq_true rfl) ?_
      refine X_istore_n dX6_take_46 (by decide) ?_
      refine X_iload_n dX6_take_47 rfl ?_
      refine X_sipush (v := nI 210) dX6_take_48 (by decide) ?_
      refine X_icmp_neN (a := 204) (b := 210) 73 dX6_take_51 (by decide) (by omega) (by omega) (fun h_3 => ?_) (fun h_3 => ?_)
      · refine X_aload_n dX6_take_73 rfl ?_
        refine X_iload_n dX6_take_74 rfl ?_
        refine X_iload_n dX6_take_75 rfl ?_
        refine X_iload_n dX6_take_76 rfl ?_
        refine X_callSI dX6_take_77 mkX6_103 (c_join6 Γ g (up2 mi 17 4 (nI (n - 1 - 1))) ml (mi 21 (n - 1 - 1)) (mi 21 (n - 1))) rfl rfl (by decide) (Nat.le_of_ble_eq_true rfl) ?_
        refine X_callVV dX6_take_80 mkX6_100 (k_17 hSh) (c_push Γ g mi ml hSh (n - 1 - 1) (by omega) (byO 6 (mi 21 (n - 1 - 1)) (mi 21 (n - 1)))) rfl rfl (by decide) (Nat.le_of_ble_eq_true rfl) ?_
        exact X_vret dX6_take_83 rfl ⟨rfl, rfl, by rw [tk_b (by decide) (by decide)]; dsimp only; rw [show n - 1 - 1 = n - 2 by omega, show n - 2 + 1 = n - 1 by omega], rfl⟩
      · exact absurd h_3 (by decide)
    · exact absurd h_2 (by decide)
  · exact absurd h_1 (by decide)
set_option maxRecDepth 100000 in
set_option maxHeartbeats 4000000 in
theorem c_takeb7 (Γ : pTG) (g : pGG) (mi : pMI) (ml : pML) (hSh : Sh g) (n : Nat) (hn : 2 ≤ n) (hn2 : n ≤ 40) : cV Γ 2 mX6_take [.ref 17, .int (nI 205)] g (up2 mi 17 4 (nI n)) ml (up2 (tkM 21 (mi 20) (fun v => !decide (v = 0)) (7, 0) (mi, n)).1 17 4 (nI (tkM 21 (mi 20) (fun v => !decide (v = 0)) (7, 0) (mi, n)).2)) ml := by
  refine cV_of (by decide +kernel) (Nat.le_of_ble_eq_true rfl) ?_
  refine X_iload_n dX6_take_0 rfl ?_
  refine X_bipush (v := nI 100) dX6_take_1 (by decide) ?_
  refine X_icmp_geN (a := 205) (b := 100) 14 dX6_take_3 (by decide) (by omega) (by omega) (fun h_1 => ?_) (fun h_1 => ?_)
  · refine X_iload_n dX6_take_14 rfl ?_
    refine X_sipush (v := nI 200) dX6_take_15 (by decide) ?_
    refine X_icmp_geN (a := 205) (b := 200) 37 dX6_take_18 (by decide) (by omega) (by omega) (fun h_2 => ?_) (fun h_2 => ?_)
    · refine X_aload_n dX6_take_37 rfl ?_
      refine X_callVI dX6_take_38 mkX6_97 (k_17 hSh) (c_pop Γ g mi ml hSh (n) (by omega) (by omega)) rfl rfl (by decide) (Nat.le_of_ble_eq_true rfl) ?_
      refine X_istore_n dX6_take_41 (by decide) ?_
      refine X_aload_n dX6_take_42 rfl ?_
      refine X_callVI dX6_take_43 mkX6_97 (k_17 hSh) (c_pop Γ g mi ml hSh (n - 1) (by omega) (by omega)) rfl rfl (by decide) (Nat.le_of_ble_eq_true rfl) ?_
      refine X_istore_n dX6_take_46 (by decide) ?_
      refine X_iload_n dX6_take_47 rfl ?_
      refine X_sipush (v := nI 210) dX6_take_48 (by decide) ?_
      refine X_icmp_neN (a := 205) (b := 210) 73 dX6_take_51 (by decide) (by omega) (by omega) (fun h_3 => ?_) (fun h_3 => ?_)
      · refine X_aload_n dX6_take_73 rfl ?_
        refine X_iload_n dX6_take_74 rfl ?_
        refine X_iload_n dX6_take_75 rfl ?_
        refine X_iload_n dX6_take_76 rfl ?_
        refine X_callSI dX6_take_77 mkX6_103 (c_join7 Γ g (up2 mi 17 4 (nI (n - 1 - 1))) ml (mi 21 (n - 1 - 1)) (mi 21 (n - 1))) rfl rfl (by decide) (Nat.le_of_ble_eq_true rfl) ?_
        refine X_callVV dX6_take_80 mkX6_100 (k_17 hSh) (c_push Γ g mi ml hSh (n - 1 - 1) (by omega) (byO 7 (mi 21 (n - 1 - 1)) (mi 21 (n - 1)))) rfl rfl (by decide) (Nat.le_of_ble_eq_true rfl) ?_
        exact X_vret dX6_take_83 rfl ⟨rfl, rfl, by rw [tk_b (by decide) (by decide)]; dsimp only; rw [show n - 1 - 1 = n - 2 by omega, show n - 2 + 1 = n - 1 by omega], rfl⟩
      · exact absurd h_3 (by decide)
    · exact absurd h_2 (by decide)
  · exact absurd h_1 (by decide)
set_option maxRecDepth 100000 in
set_option maxHeartbeats 4000000 in
theorem c_takeb8 (Γ : pTG) (g : pGG) (mi : pMI) (ml : pML) (hSh : Sh g) (n : Nat) (hn : 2 ≤ n) (hn2 : n ≤ 40) : cV Γ 2 mX6_take [.ref 17, .int (nI 206)] g (up2 mi 17 4 (nI n)) ml (up2 (tkM 21 (mi 20) (fun v => !decide (v = 0)) (8, 0) (mi, n)).1 17 4 (nI (tkM 21 (mi 20) (fun v => !decide (v = 0)) (8, 0) (mi, n)).2)) ml := by
  refine cV_of (by decide +kernel) (Nat.le_of_ble_eq_true rfl) ?_
  refine X_iload_n dX6_take_0 rfl ?_
  refine X_bipush (v := nI 100) dX6_take_1 (by decide) ?_
  refine X_icmp_geN (a := 206) (b := 100) 14 dX6_take_3 (by decide) (by omega) (by omega) (fun h_1 => ?_) (fun h_1 => ?_)
  · refine X_iload_n dX6_take_14 rfl ?_
    refine X_sipush (v := nI 200) dX6_take_15 (by decide) ?_
    refine X_icmp_geN (a := 206) (b := 200) 37 dX6_take_18 (by decide) (by omega) (by omega) (fun h_2 => ?_) (fun h_2 => ?_)
    · refine X_aload_n dX6_take_37 rfl ?_
      refine X_callVI dX6_take_38 mkX6_97 (k_17 hSh) (c_pop Γ g mi ml hSh (n) (by omega) (by omega)) rfl rfl (by decide) (Nat.le_of_ble_eq_true rfl) ?_
      refine X_istore_n dX6_take_41 (by decide) ?_
      refine X_aload_n dX6_take_42 rfl ?_
      refine X_callVI dX6_take_43 mkX6_97 (k_17 hSh) (c_pop Γ g mi ml hSh (n - 1) (by omega) (by omega)) rfl rfl (by decide) (Nat.le_of_ble_eq_true rfl) ?_
      refine X_istore_n dX6_take_46 (by decide) ?_
      refine X_iload_n dX6_take_47 rfl ?_
      refine X_sipush (v := nI 210) dX6_take_48 (by decide) ?_
      refine X_icmp_neN (a := 206) (b := 210) 73 dX6_take_51 (by decide) (by omega) (by omega) (fun h_3 => ?_) (fun h_3 => ?_)
      · refine X_aload_n dX6_take_73 rfl ?_
        refine X_iload_n dX6_take_74 rfl ?_
        refine X_iload_n dX6_take_75 rfl ?_
        refine X_iload_n dX6_take_76 rfl ?_
        refine X_callSI dX6_take_77 mkX6_103 (c_join8 Γ g (up2 mi 17 4 (nI (n - 1 - 1))) ml (mi 21 (n - 1 - 1)) (mi 21 (n - 1))) rfl rfl (by decide) (Nat.le_of_ble_eq_true rfl) ?_
        refine X_callVV dX6_take_80 mkX6_100 (k_17 hSh) (c_push Γ g mi ml hSh (n - 1 - 1) (by omega) (byO 8 (mi 21 (n - 1 - 1)) (mi 21 (n - 1)))) rfl rfl (by decide) (Nat.le_of_ble_eq_true rfl) ?_
        exact X_vret dX6_take_83 rfl ⟨rfl, rfl, by rw [tk_b (by decide) (by decide)]; dsimp only; rw [show n - 1 - 1 = n - 2 by omega, show n - 2 + 1 = n - 1 by omega], rfl⟩
      · exact absurd h_3 (by decide)
    · exact absurd h_2 (by decide)
  · exact absurd h_1 (by decide)
set_option maxRecDepth 100000 in
set_option maxHeartbeats 4000000 in
theorem c_takeb9 (Γ : pTG) (g : pGG) (mi : pMI) (ml : pML) (hSh : Sh g) (n : Nat) (hn : 2 ≤ n) (hn2 : n ≤ 40) : cV Γ 2 mX6_take [.ref 17, .int (nI 207)] g (up2 mi 17 4 (nI n)) ml (up2 (tkM 21 (mi 20) (fun v => !decide (v = 0)) (9, 0) (mi, n)).1 17 4 (nI (tkM 21 (mi 20) (fun v => !decide (v = 0)) (9, 0) (mi, n)).2)) ml := by
  refine cV_of (by decide +kernel) (Nat.le_of_ble_eq_true rfl) ?_
  refine X_iload_n dX6_take_0 rfl ?_
  refine X_bipush (v := nI 100) dX6_take_1 (by decide) ?_
  refine X_icmp_geN (a := 207) (b := 100) 14 dX6_take_3 (by decide) (by omega) (by omega) (fun h_1 => ?_) (fun h_1 => ?_)
  · refine X_iload_n dX6_take_14 rfl ?_
    refine X_sipush (v := nI 200) dX6_take_15 (by decide) ?_
    refine X_icmp_geN (a := 207) (b := 200) 37 dX6_take_18 (by decide) (by omega) (by omega) (fun h_2 => ?_) (fun h_2 => ?_)
    · refine X_aload_n dX6_take_37 rfl ?_
      refine X_callVI dX6_take_38 mkX6_97 (k_17 hSh) (c_pop Γ g mi ml hSh (n) (by omega) (by omega)) rfl rfl (by decide) (Nat.le_of_ble_eq_true rfl) ?_
      refine X_istore_n dX6_take_41 (by decide) ?_
      refine X_aload_n dX6_take_42 rfl ?_
      refine X_callVI dX6_take_43 mkX6_97 (k_17 hSh) (c_pop Γ g mi ml hSh (n - 1) (by omega) (by omega)) rfl rfl (by decide) (Nat.le_of_ble_eq_true rfl) ?_
      refine X_istore_n dX6_take_46 (by decide) ?_
      refine X_iload_n dX6_take_47 rfl ?_
      refine X_sipush (v := nI 210) dX6_take_48 (by decide) ?_
      refine X_icmp_neN (a := 207) (b := 210) 73 dX6_take_51 (by decide) (by omega) (by omega) (fun h_3 => ?_) (fun h_3 => ?_)
      · refine X_aload_n dX6_take_73 rfl ?_
        refine X_iload_n dX6_take_74 rfl ?_
        refine X_iload_n dX6_take_75 rfl ?_
        refine X_iload_n dX6_take_76 rfl ?_
        refine X_callSI dX6_take_77 mkX6_103 (c_join9 Γ g (up2 mi 17 4 (nI (n - 1 - 1))) ml (mi 21 (n - 1 - 1)) (mi 21 (n - 1))) rfl rfl (by decide) (Nat.le_of_ble_eq_true rfl) ?_
        refine X_callVV dX6_take_80 mkX6_100 (k_17 hSh) (c_push Γ g mi ml hSh (n - 1 - 1) (by omega) (byO 9 (mi 21 (n - 1 - 1)) (mi 21 (n - 1)))) rfl rfl (by decide) (Nat.le_of_ble_eq_true rfl) ?_
        exact X_vret dX6_take_83 rfl ⟨rfl, rfl, by rw [tk_b (by decide) (by decide)]; dsimp only; rw [show n - 1 - 1 = n - 2 by omega, show n - 2 + 1 = n - 1 by omega], rfl⟩
      · exact absurd h_3 (by decide)
    · exact absurd h_2 (by decide)
  · exact absurd h_1 (by decide)
set_option maxRecDepth 100000 in
set_option maxHeartbeats 4000000 in
theorem c_takeb10 (Γ : pTG) (g : pGG) (mi : pMI) (ml : pML) (hSh : Sh g) (n : Nat) (hn : 2 ≤ n) (hn2 : n ≤ 40) : cV Γ 2 mX6_take [.ref 17, .int (nI 208)] g (up2 mi 17 4 (nI n)) ml (up2 (tkM 21 (mi 20) (fun v => !decide (v = 0)) (10, 0) (mi, n)).1 17 4 (nI (tkM 21 (mi 20) (fun v => !decide (v = 0)) (10, 0) (mi, n)).2)) ml := by
  refine cV_of (by decide +kernel) (Nat.le_of_ble_eq_true rfl) ?_
  refine X_iload_n dX6_take_0 rfl ?_
  refine X_bipush (v := nI 100) dX6_take_1 (by decide) ?_
  refine X_icmp_geN (a := 208) (b := 100) 14 dX6_take_3 (by decide) (by omega) (by omega) (fun h_1 => ?_) (fun h_1 => ?_)
  · refine X_iload_n dX6_take_14 rfl ?_
    refine X_sipush (v := nI 200) dX6_take_15 (by decide) ?_
    refine X_icmp_geN (a := 208) (b := 200) 37 dX6_take_18 (by decide) (by omega) (by omega) (fun h_2 => ?_) (fun h_2 => ?_)
    · refine X_aload_n dX6_take_37 rfl ?_
      refine X_callVI dX6_take_38 mkX6_97 (k_17 hSh) (c_pop Γ g mi ml hSh (n) (by omega) (by omega)) rfl rfl (by decide) (Nat.le_of_ble_eq_true rfl) ?_
      refine X_istore_n dX6_take_41 (by decide) ?_
      refine X_aload_n dX6_take_42 rfl ?_
      refine X_callVI dX6_take_43 mkX6_97 (k_17 hSh) (c_pop Γ g mi ml hSh (n - 1) (by omega) (by omega)) rfl rfl (by decide) (Nat.le_of_ble_eq_true rfl) ?_
      refine X_istore_n dX6_take_46 (by decide) ?_
      refine X_iload_n dX6_take_47 rfl ?_
      refine X_sipush (v := nI 210) dX6_take_48 (by decide) ?_
      refine X_icmp_neN (a := 208) (b := 210) 73 dX6_take_51 (by decide) (by omega) (by omega) (fun h_3 => ?_) (fun h_3 => ?_)
      · refine X_aload_n dX6_take_73 rfl ?_
        refine X_iload_n dX6_take_74 rfl ?_
        refine X_iload_n dX6_take_75 rfl ?_
        refine X_iload_n dX6_take_76 rfl ?_
        refine X_callSI dX6_take_77 mkX6_103 (c_join10 Γ g (up2 mi 17 4 (nI (n - 1 - 1))) ml (mi 21 (n - 1 - 1)) (mi 21 (n - 1))) rfl rfl (by decide) (Nat.le_of_ble_eq_true rfl) ?_
        refine X_callVV dX6_take_80 mkX6_100 (k_17 hSh) (c_push Γ g mi ml hSh (n - 1 - 1) (by omega) (byO 10 (mi 21 (n - 1 - 1)) (mi 21 (n - 1)))) rfl rfl (by decide) (Nat.le_of_ble_eq_true rfl) ?_
        exact X_vret dX6_take_83 rfl ⟨rfl, rfl, by rw [tk_b (by decide) (by decide)]; dsimp only; rw [show n - 1 - 1 = n - 2 by omega, show n - 2 + 1 = n - 1 by omega], rfl⟩
      · exact absurd h_3 (by decide)
    · exact absurd h_2 (by decide)
  · exact absurd h_1 (by decide)
set_option maxRecDepth 100000 in
set_option maxHeartbeats 4000000 in
theorem c_takeb11 (Γ : pTG) (g : pGG) (mi : pMI) (ml : pML) (hSh : Sh g) (n : Nat) (hn : 2 ≤ n) (hn2 : n ≤ 40) : cV Γ 2 mX6_take [.ref 17, .int (nI 209)] g (up2 mi 17 4 (nI n)) ml (up2 (tkM 21 (mi 20) (fun v => !decide (v = 0)) (11, 0) (mi, n)).1 17 4 (nI (tkM 21 (mi 20) (fun v => !decide (v = 0)) (11, 0) (mi, n)).2)) ml := by
  refine cV_of (by decide +kernel) (Nat.le_of_ble_eq_true rfl) ?_
  refine X_iload_n dX6_take_0 rfl ?_
  refine X_bipush (v := nI 100) dX6_take_1 (by decide) ?_
  refine X_icmp_geN (a := 209) (b := 100) 14 dX6_take_3 (by decide) (by omega) (by omega) (fun h_1 => ?_) (fun h_1 => ?_)
  · refine X_iload_n dX6_take_14 rfl ?_
    refine X_sipush (v := nI 200) dX6_take_15 (by decide) ?_
    refine X_icmp_geN (a := 209) (b := 200) 37 dX6_take_18 (by decide) (by omega) (by omega) (fun h_2 => ?_) (fun h_2 => ?_)
    · refine X_aload_n dX6_take_37 rfl ?_
      refine X_callVI dX6_take_38 mkX6_97 (k_17 hSh) (c_pop Γ g mi ml hSh (n) (by omega) (by omega)) rfl rfl (by decide) (Nat.le_of_ble_eq_true rfl) ?_
      refine X_istore_n dX6_take_41 (by decide) ?_
      refine X_aload_n dX6_take_42 rfl ?_
      refine X_callVI dX6_take_43 mkX6_97 (k_17 hSh) (c_pop Γ g mi ml hSh (n - 1) (by omega) (by omega)) rfl rfl (by decide) (Nat.le_of_ble_eq_true rfl) ?_
      refine X_istore_n dX6_take_46 (by decide) ?_
      refine X_iload_n dX6_take_47 rfl ?_
      refine X_sipush (v := nI 210) dX6_take_48 (by decide) ?_
      refine X_icmp_neN (a := 209) (b := 210) 73 dX6_take_51 (by decide) (by omega) (by omega) (fun h_3 => ?_) (fun h_3 => ?_)
      · refine X_aload_n dX6_take_73 rfl ?_
        refine X_iload_n dX6_take_74 rfl ?_
        refine X_iload_n dX6_take_75 rfl ?_
        refine X_iload_n dX6_take_76 rfl ?_
        refine X_callSI dX6_take_77 mkX6_103 (c_join11 Γ g (up2 mi 17 4 (nI (n - 1 - 1))) ml (mi 21 (n - 1 - 1)) (mi 21 (n - 1))) rfl rfl (by decide) (Nat.le_of_ble_eq_true rfl) ?_
        refine X_callVV dX6_take_80 mkX6_100 (k_17 hSh) (c_push Γ g mi ml hSh (n - 1 - 1) (by omega) (byO 11 (mi 21 (n - 1 - 1)) (mi 21 (n - 1)))) rfl rfl (by decide) (Nat.le_of_ble_eq_true rfl) ?_
        exact X_vret dX6_take_83 rfl ⟨rfl, rfl, by rw [tk_b (by decide) (by decide)]; dsimp only; rw [show n - 1 - 1 = n - 2 by omega, show n - 2 + 1 = n - 1 by omega], rfl⟩
      · exact absurd h_3 (by decide)
    · exact absurd h_2 (by decide)
  · exact absurd h_1 (by decide)
set_option maxRecDepth 100000 in
set_option maxHeartbeats 4000000 in
theorem c_takec (Γ : pTG) (g : pGG) (mi : pMI) (ml : pML) (hSh : Sh g) (n : Nat) (hn : 3 ≤ n) (hn2 : n ≤ 40) : cV Γ 2 mX6_take [.ref 17, .int (nI 210)] g (up2 mi 17 4 (nI n)) ml (up2 (tkM 21 (mi 20) (fun v => !decide (v = 0)) (12, 0) (mi, n)).1 17 4 (nI (tkM 21 (mi 20) (fun v => !decide (v = 0)) (12, 0) (mi, n)).2)) ml := by
  refine cV_of (by decide +kernel) (Nat.le_of_ble_eq_true rfl) ?_
  refine X_iload_n dX6_take_0 rfl ?_
  refine X_bipush (v := nI 100) dX6_take_1 (by decide) ?_
  refine X_icmp_geN (a := 210) (b := 100) 14 dX6_take_3 (by decide) (by omega) (by omega) (fun h_1 => ?_) (fun h_1 => ?_)
  · refine X_iload_n dX6_take_14 rfl ?_
    refine X_sipush (v := nI 200) dX6_take_15 (by decide) ?_
    refine X_icmp_geN (a := 210) (b := 200) 37 dX6_take_18 (by decide) (by omega) (by omega) (fun h_2 => ?_) (fun h_2 => ?_)
    · refine X_aload_n dX6_take_37 rfl ?_
      refine X_callVI dX6_take_38 mkX6_97 (k_17 hSh) (c_pop Γ g mi ml hSh (n) (by omega) (by omega)) rfl rfl (by decide) (Nat.le_of_ble_eq_true rfl) ?_
      refine X_istore_n dX6_take_41 (by decide) ?_
      refine X_aload_n dX6_take_42 rfl ?_
      refine X_callVI dX6_take_43 mkX6_97 (k_17 hSh) (c_pop Γ g mi ml hSh (n - 1) (by omega) (by omega)) rfl rfl (by decide) (Nat.le_of_ble_eq_true rfl) ?_
      refine X_istore_n dX6_take_46 (by decide) ?_
      refine X_iload_n dX6_take_47 rfl ?_
      refine X_sipush (v := nI 210) dX6_take_48 (by decide) ?_
      refine X_icmp_neN (a := 210) (b := 210) 73 dX6_take_51 (by decide) (by omega) (by omega) (fun h_3 => ?_) (fun h_3 => ?_)
      · exact absurd rfl h_3
      · refine X_aload_n dX6_take_54 rfl ?_
        refine X_aload_n dX6_take_55 rfl ?_
        refine X_callVI dX6_take_56 mkX6_97 (k_17 hSh) (c_pop Γ g mi ml hSh (n - 1 - 1) (by omega) (by omega)) rfl rfl (by decide) (Nat.le_of_ble_eq_true rfl) ?_
        refine X_if_eq 66 dX6_take_59 (by decide) (fun h_4 => ?_) (fun h_4 => ?_)
        · refine X_iload_n dX6_take_66 rfl ?_
          refine X_callVV dX6_take_67 mkX6_100 (k_17 hSh) (c_push Γ g mi ml hSh (n - 1 - 1 - 1) (by omega) (mi 21 (n - 1))) rfl rfl (by decide) (Nat.le_of_ble_eq_true rfl) ?_
          refine X_goto 83 dX6_take_70 (by decide) ?_
          exact X_vret dX6_take_83 rfl ⟨rfl, rfl, by rw [tk_12]; dsimp only; simp only [show n - 1 - 1 = n - 2 by omega, show n - 2 - 1 = n - 3 by omega, show n - 3 + 1 = n - 2 by omega] at *; simp_all, rfl⟩
        · refine X_iload_n dX6_take_62 rfl ?_
          refine X_goto 67 dX6_take_63 (by decide) ?_
          refine X_callVV dX6_take_67 mkX6_100 (k_17 hSh) (c_push Γ g mi ml hSh (n - 1 - 1 - 1) (by omega) (mi 21 (n - 1 - 1))) rfl rfl (by decide) (Nat.le_of_ble_eq_true rfl) ?_
          refine X_goto 83 dX6_take_70 (by decide) ?_
          exact X_vret dX6_take_83 rfl ⟨rfl, rfl, by rw [tk_12]; dsimp only; simp only [show n - 1 - 1 = n - 2 by omega, show n - 2 - 1 = n - 3 by omega, show n - 3 + 1 = n - 2 by omega] at *; simp_all, rfl⟩
    · exact absurd h_2 (by decide)
  · exact absurd h_1 (by decide)

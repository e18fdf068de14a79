/-! ===== pools read ===== -/
theorem X_ldcS {Γ : pTG} {d k n : Nat} {M : pMD} {pc : Nat} {L : List (Nat × Value)} {S : List Value} {g : pGG} {mi : pMI} {ml : pML} {Q : pQ} {idx j : Nat} {tx : String} (hd : decode M.2.1 pc = .ok (.ldc idx, 2)) (ht : strTab[j]? = some (M.1.cls, idx, tx)) (h : XW Γ d k n M (pc + 2) L (.ref (1000 + j) :: S) g mi ml Q) : XW Γ d k n M pc L S g mi ml Q := by
  intro p e s m args below meth c H locs cells slots mc ms ls ad ad0 n0 R P
  obtain ⟨hc, hE, hS, hl, hRep, hoL, hoS, hr, ha⟩ := P
  have had : ad (1000 + j) = Γ.2.2.2.2.2.1 (1 + j) := by rw [show 1000 + j = 999 + (1 + j) by omega]; exact hRep.2.2.2.1 (1 + j)
  have hz := h p e s m args below meth c H locs cells slots mc ms ls ad ad0 n0 R ⟨hc, hE, hS, hl, hRep, hoL, okS_c (okv_s (by omega)) hoS, hr, ha⟩
  have e1 : (Value.ref (1000 + j) :: S).map (cv ad) = .ref (Γ.2.2.2.2.2.1 (1 + j)) :: S.map (cv ad) := by rw [← had]; rfl
  rw [e1] at hz
  exact va_ldcS hc.1 hc.2.1 hc.2.2.2.1 (hE.2.2.2.2.2.2.2.2.1 j _ ht) hd hz
def adCh (P : PD) (a b : Nat) : PD := (P.1 + 1, P.2.1, P.2.2.1, P.2.2.2.1, P.2.2.2.2.1, (fun c j => if c = P.1 then (if j = 0 then a else b) else P.2.2.2.2.2.1 c j), P.2.2.2.2.2.2)
def adGu (P : PD) (u f t c : Nat) : PD := (P.1, P.2.1 + 1, P.2.2.1, P.2.2.2.1, P.2.2.2.2.1, P.2.2.2.2.2.1, (fun b j => if b = P.2.1 then (match j with | 0 => u | 1 => f | 2 => t | _ => c) else P.2.2.2.2.2.2 b j))
def seGo (P : PD) (v : Nat) : PD := (P.1, P.2.1, v, P.2.2.2.1, P.2.2.2.2.1, P.2.2.2.2.2.1, P.2.2.2.2.2.2)
def seUn (P : PD) (v : Nat) : PD := (P.1, P.2.1, P.2.2.1, v, P.2.2.2.2.1, P.2.2.2.2.2.1, P.2.2.2.2.2.2)
def sePr (P : PD) (v : Nat) : PD := (P.1, P.2.1, P.2.2.1, P.2.2.2.1, v, P.2.2.2.2.2.1, P.2.2.2.2.2.2)
def P00 : PD := (0, 0, 0, 2, 0, (fun _ _ => 0), (fun _ _ => 0))
abbrev rPD : Type := Except (Nat × Nat) (Nat × PD)
/-- the numbers of a clause -/
def rdCh (B : Nat → Int32) (n i : Nat) (P : PD) : rPD := match numR B n i 0 10 with
  | .error e => .error e
  | .ok (a, e1) => match numR B n e1 0 10 with
    | .error e => .error e
    | .ok (b, e2) => .ok (e2, adCh P a b)
def rdGu (B : Nat → Int32) (n i : Nat) (P : PD) : rPD := match numR B n i 0 24 with
  | .error e => .error e
  | .ok (u, e1) => match numR B n e1 0 23 with
    | .error e => .error e
    | .ok (f, e2) => match numR B n e2 (f + 1) 24 with
      | .error e => .error e
      | .ok (t, e3) => match numR B n e3 0 10 with
        | .error e => .error e
        | .ok (c, e4) => .ok (e4, adGu P u f t c)
def rd1 (B : Nat → Int32) (n i lo hx : Nat) (f : Nat → PD) : rPD := match numR B n i lo hx with
  | .error e => .error e
  | .ok (v, e) => .ok (e, f v)
def rdNu (B : Nat → Int32) (n i k : Nat) (P : PD) : rPD := match k with
  | 0 => rdCh B n i P
  | 1 => rdGu B n i P
  | 2 => rd1 B n i 0 24 (seGo P)
  | 3 => rd1 B n i 1 24 (seUn P)
  | _ => rd1 B n i 0 100 (sePr P)
def sgR {α : Type} (B : Nat → Int32) (n i c : Nat) (f : Nat → α) : Except (Nat × Nat) α := if byT B n (skT B n i) = nI c then .ok (f (skT B n i + 1)) else .error (1, skT B n i)
/-- a clause; how many there were -/
def clR (B : Nat → Int32) (n i c : Nat) (P : PD) : rPD := match wIx 0 B n i with
  | none => .error (1, i)
  | some k => if c = 60 ∨ (k = 0 ∧ P.1 = 8) ∨ (k = 1 ∧ P.2.1 = 8) then .error (3, i) else match rdNu B n (wdT B n i) k P with
    | .error e => .error e
    | .ok (e, P') => sgR B n e 59 (fun i => (i, P'))
def plR (B : Nat → Int32) (n : Nat) : Nat → Nat → Nat → PD → Except (Nat × Nat) PD
  | 0, _, _, _ => .error (0, 0)
  | f + 1, i, c, P => if n ≤ skT B n i then .ok P else match clR B n (skT B n i) c P with
    | .error e => .error e
    | .ok (e, P') => plR B n f e (c + 1) P'
/-- the draft holds this pool -/
def dfP (mi : pMI) (P : PD) : Prop := mi 10 9 = nI P.1 ∧ mi 10 10 = nI P.2.1 ∧ mi 10 6 = nI P.2.2.1 ∧ mi 10 7 = nI P.2.2.2.1 ∧ mi 10 8 = nI P.2.2.2.2.1 ∧ (∀ c, c < P.1 → mi 11 c = nI (P.2.2.2.2.2.1 c 0) ∧ mi 12 c = nI (P.2.2.2.2.2.1 c 1)) ∧ (∀ g, g < P.2.1 → mi 13 g = nI (P.2.2.2.2.2.2 g 0) ∧ mi 14 g = nI (P.2.2.2.2.2.2 g 1) ∧ mi 15 g = nI (P.2.2.2.2.2.2 g 2) ∧ mi 16 g = nI (P.2.2.2.2.2.2 g 3))
theorem dfP_row {m x : pMI} {P : PD} (h : ∀ i, 10 ≤ i → i ≤ 16 → x i = m i) (hd : dfP m P) : dfP x P := by
  unfold dfP
  rw [h 10 (by omega) (by omega), h 11 (by omega) (by omega), h 12 (by omega) (by omega), h 13 (by omega) (by omega), h 14 (by omega) (by omega), h 15 (by omega) (by omega), h 16 (by omega) (by omega)]
  exact hd
def frDf (m x : pMI) : Prop := ∀ i, i ≠ 2 → ¬ (10 ≤ i ∧ i ≤ 16) → x i = m i
def PST (m0 m : pMI) (B : Nat → Int32) (n i : Nat) (P : PD) : Prop := TXT m B n i ∧ dfP m P ∧ okPD P ∧ m 2 3 = m0 2 3 ∧ m 2 4 = m0 2 4 ∧ frDf m0 m
def PER (m0 m : pMI) (c p : Nat) : Prop := m 2 3 = nI c ∧ m 2 4 = nI p ∧ frDf m0 m
def PRS (m0 : pMI) (B : Nat → Int32) (n : Nat) (r : rPD) (v : Int32) (m : pMI) : Prop := match r with
  | .error (c, p) => v = nI 0 ∧ PER m0 m c p
  | .ok (e, P) => v = nI 1 ∧ PST m0 m B n e P
theorem PER_of {m0 m x : pMI} {B : Nat → Int32} {n i c p : Nat} {P : PD} (h : PST m0 m B n i P) (hx : ∀ i, i ≠ 2 → ¬ (10 ≤ i ∧ i ≤ 16) → x i = m i) (h3 : x 2 3 = nI c) (h4 : x 2 4 = nI p) : PER m0 x c p := ⟨h3, h4, fun i h1 h2 => (hx i h1 h2).trans (h.2.2.2.2.2 i h1 h2)⟩
theorem PST_at {m0 m : pMI} {B : Nat → Int32} {n i j : Nat} {P : PD} (h : PST m0 m B n i P) (hj : j ≤ n) : PST m0 (up2 m 2 2 (nI j)) B n j P := ⟨TXT_at h.1 hj, dfP_row (fun i h1 h2 => up2_row (by omega)) h.2.1, h.2.2.1, (up2_n (by omega)).trans h.2.2.2.1, (up2_n (by omega)).trans h.2.2.2.2.1, fun i h1 h2 => by rw [up2_row h1]; exact h.2.2.2.2.2 i h1 h2⟩
theorem PST_ch {m0 m : pMI} {B : Nat → Int32} {n i a b : Nat} {P : PD} (h : PST m0 m B n i P) (h8 : P.1 < 8) (ha : a < 10) (hb : b < 10) : PST m0 (up2 (up2 (up2 m 11 P.1 (nI a)) 12 P.1 (nI b)) 10 9 (nI (P.1 + 1))) B n i (adCh P a b) := by
  obtain ⟨hT, ⟨d1, d2, d3, d4, d5, d6, d7⟩, hP, h3, h4, hf⟩ := h
  refine ⟨TXT_row hT (by rw [up2_row (by omega), up2_row (by omega), up2_row (by omega)]) (by rw [up2_row (by omega), up2_row (by omega), up2_row (by omega)]) (by rw [up2_row (by omega), up2_row (by omega), up2_row (by omega)]), ⟨up2_s, ?_, ?_, ?_, ?_, fun c hc => ?_, fun b hb => ?_⟩, ?_, ?_, ?_, fun i h1 h2 => ?_⟩
  · rw [up2_n (by omega), up2_row (by omega), up2_row (by omega)]; exact d2
  · rw [up2_n (by omega), up2_row (by omega), up2_row (by omega)]; exact d3
  · rw [up2_n (by omega), up2_row (by omega), up2_row (by omega)]; exact d4
  · rw [up2_n (by omega), up2_row (by omega), up2_row (by omega)]; exact d5
  · have hc : c < P.1 + 1 := hc
    rw [up2_row (show 11 ≠ 10 by omega), up2_row (show 11 ≠ 12 by omega), up2_row (show 12 ≠ 10 by omega)]
    show up2 m 11 P.1 (nI a) 11 c = nI (if c = P.1 then (if 0 = 0 then a else b) else P.2.2.2.2.2.1 c 0) ∧ up2 (up2 m 11 P.1 (nI a)) 12 P.1 (nI b) 12 c = nI (if c = P.1 then (if 1 = 0 then a else b) else P.2.2.2.2.2.1 c 1)
    by_cases e : c = P.1
    · rw [if_pos e, if_pos e, e]; exact ⟨up2_s, up2_s⟩
    · rw [if_neg e, if_neg e, up2_n e, up2_n e, up2_row (show 12 ≠ 11 by omega)]; exact d6 c (by omega)
  · rw [up2_row (by omega), up2_row (by omega), up2_row (by omega), up2_row (by omega), up2_row (by omega), up2_row (by omega), up2_row (by omega), up2_row (by omega), up2_row (by omega), up2_row (by omega), up2_row (by omega), up2_row (by omega)]; exact d7 b hb
  · refine ⟨by show P.1 + 1 ≤ 8; omega, hP.2.1, hP.2.2.1, hP.2.2.2.1, hP.2.2.2.2.1, hP.2.2.2.2.2.1, fun c hc => ?_, hP.2.2.2.2.2.2.2⟩
    have hc : c < P.1 + 1 := hc
    show (if c = P.1 then (if 0 = 0 then a else b) else P.2.2.2.2.2.1 c 0) < 10 ∧ (if c = P.1 then (if 1 = 0 then a else b) else P.2.2.2.2.2.1 c 1) < 10
    by_cases e : c = P.1
    · rw [if_pos e, if_pos e]; exact ⟨ha, hb⟩
    · rw [if_neg e, if_neg e]; exact hP.2.2.2.2.2.2.1 c (by omega)
  · rw [up2_row (by omega), up2_row (by omega), up2_row (by omega)]; exact h3
  · rw [up2_row (by omega), up2_row (by omega), up2_row (by omega)]; exact h4
  · rw [up2_row (by omega), up2_row (by omega), up2_row (by omega)]; exact hf i h1 h2
theorem PST_gu {m0 m : pMI} {B : Nat → Int32} {n i u f t c : Nat} {P : PD} (h : PST m0 m B n i P) (h8 : P.2.1 < 8) (hu : u < 24) (hf1 : f < 23) (ht : f < t) (ht2 : t < 24) (hc : c < 10) : PST m0 (up2 (up2 (up2 (up2 (up2 m 13 P.2.1 (nI u)) 14 P.2.1 (nI f)) 15 P.2.1 (nI t)) 16 P.2.1 (nI c)) 10 10 (nI (P.2.1 + 1))) B n i (adGu P u f t c) := by
  obtain ⟨hT, ⟨d1, d2, d3, d4, d5, d6, d7⟩, hP, h3, h4, hf⟩ := h
  have hrw : ∀ i, i ≠ 10 → i ≠ 13 → i ≠ 14 → i ≠ 15 → i ≠ 16 → (up2 (up2 (up2 (up2 (up2 m 13 P.2.1 (nI u)) 14 P.2.1 (nI f)) 15 P.2.1 (nI t)) 16 P.2.1 (nI c)) 10 10 (nI (P.2.1 + 1))) i = m i := fun i a1 a2 a3 a4 a5 => by rw [up2_row a1, up2_row a5, up2_row a4, up2_row a3, up2_row a2]
  have h10 : ∀ j, j ≠ 10 → (up2 (up2 (up2 (up2 (up2 m 13 P.2.1 (nI u)) 14 P.2.1 (nI f)) 15 P.2.1 (nI t)) 16 P.2.1 (nI c)) 10 10 (nI (P.2.1 + 1))) 10 j = m 10 j := fun j hj => by rw [up2_n hj, up2_row (by omega), up2_row (by omega), up2_row (by omega), up2_row (by omega)]
  refine ⟨TXT_row hT (hrw 1 (by omega) (by omega) (by omega) (by omega) (by omega)) (by rw [hrw 2 (by omega) (by omega) (by omega) (by omega) (by omega)]) (by rw [hrw 2 (by omega) (by omega) (by omega) (by omega) (by omega)]), ⟨(h10 9 (by omega)).trans d1, up2_s, (h10 6 (by omega)).trans d3, (h10 7 (by omega)).trans d4, (h10 8 (by omega)).trans d5, fun c hc => ?_, fun b hb => ?_⟩, ?_, ?_, ?_, fun i h1 h2 => ?_⟩
  · rw [hrw 11 (by omega) (by omega) (by omega) (by omega) (by omega), hrw 12 (by omega) (by omega) (by omega) (by omega) (by omega)]; exact d6 c hc
  · have hb : b < P.2.1 + 1 := hb
    rw [up2_row (show 13 ≠ 10 by omega), up2_row (show 13 ≠ 16 by omega), up2_row (show 13 ≠ 15 by omega), up2_row (show 13 ≠ 14 by omega), up2_row (show 14 ≠ 10 by omega), up2_row (show 14 ≠ 16 by omega), up2_row (show 14 ≠ 15 by omega), up2_row (show 15 ≠ 10 by omega), up2_row (show 15 ≠ 16 by omega), up2_row (show 16 ≠ 10 by omega)]
    show _ = nI (if b = P.2.1 then u else P.2.2.2.2.2.2 b 0) ∧ _ = nI (if b = P.2.1 then f else P.2.2.2.2.2.2 b 1) ∧ _ = nI (if b = P.2.1 then t else P.2.2.2.2.2.2 b 2) ∧ _ = nI (if b = P.2.1 then c else P.2.2.2.2.2.2 b 3)
    by_cases e : b = P.2.1
    · rw [if_pos e, if_pos e, if_pos e, if_pos e, e]; exact ⟨up2_s, up2_s, up2_s, up2_s⟩
    · rw [if_neg e, if_neg e, if_neg e, if_neg e, up2_n e, up2_n e, up2_n e, up2_n e, up2_row (show 14 ≠ 13 by omega), up2_row (show 15 ≠ 14 by omega), up2_row (show 15 ≠ 13 by omega), up2_row (show 16 ≠ 15 by omega), up2_row (show 16 ≠ 14 by omega), up2_row (show 16 ≠ 13 by omega)]; exact d7 b (by omega)
  · refine ⟨hP.1, by show P.2.1 + 1 ≤ 8; omega, hP.2.2.1, hP.2.2.2.1, hP.2.2.2.2.1, hP.2.2.2.2.2.1, hP.2.2.2.2.2.2.1, fun b hb => ?_⟩
    have hb : b < P.2.1 + 1 := hb
    show (if b = P.2.1 then u else P.2.2.2.2.2.2 b 0) < 24 ∧ (if b = P.2.1 then f else P.2.2.2.2.2.2 b 1) < 23 ∧ (if b = P.2.1 then f else P.2.2.2.2.2.2 b 1) < (if b = P.2.1 then t else P.2.2.2.2.2.2 b 2) ∧ (if b = P.2.1 then t else P.2.2.2.2.2.2 b 2) < 24 ∧ (if b = P.2.1 then c else P.2.2.2.2.2.2 b 3) < 10
    by_cases e : b = P.2.1
    · rw [if_pos e, if_pos e, if_pos e, if_pos e]; exact ⟨hu, hf1, ht, ht2, hc⟩
    · rw [if_neg e, if_neg e, if_neg e, if_neg e]; exact hP.2.2.2.2.2.2.2 b (by omega)
  · rw [hrw 2 (by omega) (by omega) (by omega) (by omega) (by omega)]; exact h3
  · rw [hrw 2 (by omega) (by omega) (by omega) (by omega) (by omega)]; exact h4
  · rw [hrw i (by omega) (by omega) (by omega) (by omega) (by omega)]; exact hf i h1 h2
theorem PST_f {m0 m : pMI} {B : Nat → Int32} {n i k v : Nat} {P P' : PD} (h : PST m0 m B n i P) (hk : (k = 6 ∧ P' = seGo P v ∧ v < 24) ∨ (k = 7 ∧ P' = seUn P v ∧ 1 ≤ v ∧ v < 24) ∨ (k = 8 ∧ P' = sePr P v ∧ v < 100)) : PST m0 (up2 m 10 k (nI v)) B n i P' := by
  obtain ⟨hT, ⟨d1, d2, d3, d4, d5, d6, d7⟩, ⟨p1, p2, p3, p4, p5, p6, p7, p8⟩, h3, h4, hf⟩ := h
  refine ⟨TXT_row hT (by rw [up2_row (by omega)]) (by rw [up2_row (by omega)]) (by rw [up2_row (by omega)]), ?_, ?_, by rw [up2_row (by omega)]; exact h3, by rw [up2_row (by omega)]; exact h4, fun i h1 h2 => by rw [up2_row (by omega)]; exact hf i h1 h2⟩
  · rcases hk with ⟨rfl, rfl, hv⟩ | ⟨rfl, rfl, hv⟩ | ⟨rfl, rfl, hv⟩
    · exact ⟨(up2_n (by omega)).trans d1, (up2_n (by omega)).trans d2, up2_s, (up2_n (by omega)).trans d4, (up2_n (by omega)).trans d5, fun c hc => by rw [up2_row (by omega), up2_row (by omega)]; exact d6 c hc, fun b hb => by rw [up2_row (by omega), up2_row (by omega), up2_row (by omega), up2_row (by omega)]; exact d7 b hb⟩
    · exact ⟨(up2_n (by omega)).trans d1, (up2_n (by omega)).trans d2, (up2_n (by omega)).trans d3, up2_s, (up2_n (by omega)).trans d5, fun c hc => by rw [up2_row (by omega), up2_row (by omega)]; exact d6 c hc, fun b hb => by rw [up2_row (by omega), up2_row (by omega), up2_row (by omega), up2_row (by omega)]; exact d7 b hb⟩
    · exact ⟨(up2_n (by omega)).trans d1, (up2_n (by omega)).trans d2, (up2_n (by omega)).trans d3, (up2_n (by omega)).trans d4, up2_s, fun c hc => by rw [up2_row (by omega), up2_row (by omega)]; exact d6 c hc, fun b hb => by rw [up2_row (by omega), up2_row (by omega), up2_row (by omega), up2_row (by omega)]; exact d7 b hb⟩
  · rcases hk with ⟨rfl, rfl, hv⟩ | ⟨rfl, rfl, hv⟩ | ⟨rfl, rfl, hv⟩
    · exact ⟨p1, p2, hv, p4, p5, p6, p7, p8⟩
    · exact ⟨p1, p2, p3, hv.1, hv.2, p6, p7, p8⟩
    · exact ⟨p1, p2, p3, p4, p5, hv, p7, p8⟩
theorem hH_of {h : Nat} (hh : h < 1000) : ∀ v, v ≤ 100000 → (nI v ≤ nI h ↔ v < h + 1) := fun v hv => by rw [nI_leI (by omega) (by omega)]; omega
set_option maxRecDepth 100000 in
set_option maxHeartbeats 4000000 in
theorem c_readChair (Γ : pTG) (g : pGG) (mi : pMI) (ml : pML) (hSh : Sh g) (m0 : pMI) (B : Nat → Int32) (n i0 : Nat) (P : PD) (hS : PST m0 mi B n i0 P) (h8 : P.1 < 8) : rI Γ 4 mX8_readChair [.ref 10, .ref 2] g mi ml (fun v m l => l = ml ∧ PRS m0 B n (rdCh B n i0 P) v m) := by
  refine rI_of (by decide +kernel) (Nat.le_of_ble_eq_true rfl) ?_
  refine X_aload_n dX8_readChair_0 rfl ?_
  refine X_iconst (v := nI 0) dX8_readChair_1 (by decide) ?_
  refine X_bipush (v := nI 9) dX8_readChair_2 (by decide) ?_
  match hN1 : numR B n i0 0 10 with
  | .error (k1, p1) =>
    obtain ⟨q1, hq1, hC1⟩ := c_numE Γ g mi ml hSh B n i0 hS.1 0 10 (nI 9) (by omega) (by omega) (hH_of (by omega)) hN1
    refine X_callVI dX8_readChair_4 mkX8_95 (k_2 hSh) (hC1) rfl rfl (by decide) (Nat.le_of_ble_eq_true rfl) ?_
    refine X_istore_n dX8_readChair_7 (by decide) ?_
    refine X_iload_n dX8_readChair_8 rfl ?_
    refine X_iconst (v := -1) dX8_readChair_9 (by decide) ?_
    refine X_icmp_ne 17 dX8_readChair_10 (by decide) (fun h_1 => ?_) (fun h_1 => ?_)
    · exact absurd rfl h_1
    · refine X_iconst (v := -1) dX8_readChair_13 (by decide) ?_
      refine X_goto 24 dX8_readChair_14 (by decide) ?_
      refine X_istore_n dX8_readChair_24 (by decide) ?_
      refine X_iload_n dX8_readChair_25 rfl ?_
      refine X_iconst (v := -1) dX8_readChair_26 (by decide) ?_
      refine X_icmp_eq 39 dX8_readChair_27 (by decide) (fun h_2 => ?_) (fun h_2 => ?_)
      · refine X_iconst (v := nI 0) dX8_readChair_39 (by decide) ?_
        exact X_zret (ty := .boolean) dX8_readChair_40 rfl (by decide) ⟨rfl, _, rfl, rfl, by rw [show rdCh B n i0 P = .error (k1, p1) from by simp only [rdCh, hN1]]; exact ⟨rfl, PER_of hS (fun i h1 h2 => by rw [up2_row h1, up2_row h1, up2_row h1]) ((up2_n (by omega)).trans up2_s) up2_s⟩⟩
      · exact absurd rfl h_2
  | .ok (v1, e1) =>
    obtain ⟨hC1, he1, hi1, hl1, hv1⟩ := c_numOK Γ g mi ml hSh B n i0 hS.1 0 10 (nI 9) (by omega) (by omega) (hH_of (by omega)) hN1
    have hS1 := PST_at hS he1
    refine X_callVI dX8_readChair_4 mkX8_95 (k_2 hSh) (hC1) rfl rfl (by decide) (Nat.le_of_ble_eq_true rfl) ?_
    refine X_istore_n dX8_readChair_7 (by decide) ?_
    refine X_iload_n dX8_readChair_8 rfl ?_
    refine X_iconst (v := -1) dX8_readChair_9 (by decide) ?_
    refine X_icmp_ne 17 dX8_readChair_10 (by decide) (fun h_3 => ?_) (fun h_3 => ?_)
    · refine X_aload_n dX8_readChair_17 rfl ?_
      refine X_iconst (v := nI 0) dX8_readChair_18 (by decide) ?_
      refine X_bipush (v := nI 9) dX8_readChair_19 (by decide) ?_
      match hN2 : numR B n e1 0 10 with
      | .error (k2, p2) =>
        obtain ⟨q2, hq2, hC2⟩ := c_numE Γ g (up2 mi 2 2 (nI e1)) ml hSh B n e1 hS1.1 0 10 (nI 9) (by omega) (by omega) (hH_of (by omega)) hN2
        refine X_callVI dX8_readChair_21 mkX8_95 (k_2 hSh) (hC2) rfl rfl (by decide) (Nat.le_of_ble_eq_true rfl) ?_
        refine X_istore_n dX8_readChair_24 (by decide) ?_
        refine X_iload_n dX8_readChair_25 rfl ?_
        refine X_iconst (v := -1) dX8_readChair_26 (by decide) ?_
        refine X_icmp_eq 39 dX8_readChair_27 (by decide) (fun h_4 => ?_) (fun h_4 => ?_)
        · refine X_iconst (v := nI 0) dX8_readChair_39 (by decide) ?_
          exact X_zret (ty := .boolean) dX8_readChair_40 rfl (by decide) ⟨rfl, _, rfl, rfl, by rw [show rdCh B n i0 P = .error (k2, p2) from by simp only [rdCh, hN1, hN2]]; exact ⟨rfl, PER_of hS1 (fun i h1 h2 => by rw [up2_row h1, up2_row h1, up2_row h1]) ((up2_n (by omega)).trans up2_s) up2_s⟩⟩
        · exact absurd rfl h_4
      | .ok (v2, e2) =>
        obtain ⟨hC2, he2, hi2, hl2, hv2⟩ := c_numOK Γ g (up2 mi 2 2 (nI e1)) ml hSh B n e1 hS1.1 0 10 (nI 9) (by omega) (by omega) (hH_of (by omega)) hN2
        have hS2 := PST_at hS1 he2
        refine X_callVI dX8_readChair_21 mkX8_95 (k_2 hSh) (hC2) rfl rfl (by decide) (Nat.le_of_ble_eq_true rfl) ?_
        refine X_istore_n dX8_readChair_24 (by decide) ?_
        refine X_iload_n dX8_readChair_25 rfl ?_
        refine X_iconst (v := -1) dX8_readChair_26 (by decide) ?_
        refine X_icmp_eq 39 dX8_readChair_27 (by decide) (fun h_5 => ?_) (fun h_5 => ?_)
        · exact absurd h_5 (nI_m1 (by omega))
        · refine X_aload_n dX8_readChair_30 rfl ?_
          refine X_geti dX8_readChair_31 fkX8_30 rfl (k_10 hSh) ?_
          rw [hS2.2.1.1]
          refine X_bipush (v := nI 8) dX8_readChair_34 (by decide) ?_
          refine X_icmp_ltN (a := P.1) (b := 8) 41 dX8_readChair_36 (by decide) (by omega) (by omega) (fun h_6 => ?_) (fun h_6 => ?_)
          · refine X_aload_n dX8_readChair_41 rfl ?_
            refine X_getr (a := 11) dX8_readChair_42 fkX8_9 rfl (k_10 hSh) (r_10_0 hSh) ?_
            refine X_aload_n dX8_readChair_45 rfl ?_
            refine X_geti dX8_readChair_46 fkX8_30 rfl (k_10 hSh) ?_
            rw [hS2.2.1.1]
            refine X_iload_n dX8_readChair_49 rfl ?_
            refine X_iast P.1 dX8_readChair_50 (k_11 hSh) rfl (by omega) ?_
            refine X_aload_n dX8_readChair_51 rfl ?_
            refine X_getr (a := 12) dX8_readChair_52 fkX8_15 rfl (k_10 hSh) (r_10_1 hSh) ?_
            refine X_aload_n dX8_readChair_55 rfl ?_
            refine X_geti dX8_readChair_56 fkX8_30 rfl (k_10 hSh) ?_
            refine X_topi (show (up2 (up2 (up2 mi 2 2 (nI e1)) 2 2 (nI e2)) 11 P.1 (nI v1)) 10 9 = nI P.1 by rw [up2_row (by omega), up2_row (by omega), up2_row (by omega)]; exact hS.2.1.1) ?_
            refine X_iload_n dX8_readChair_59 rfl ?_
            refine X_iast P.1 dX8_readChair_60 (k_12 hSh) rfl (by omega) ?_
            refine X_aload_n dX8_readChair_61 rfl ?_
            refine X_dup dX8_readChair_62 rfl ?_
            refine X_geti dX8_readChair_63 fkX8_30 rfl (k_10 hSh) ?_
            refine X_topi (show (up2 (up2 (up2 (up2 mi 2 2 (nI e1)) 2 2 (nI e2)) 11 P.1 (nI v1)) 12 P.1 (nI v2)) 10 9 = nI P.1 by rw [up2_row (by omega), up2_row (by omega), up2_row (by omega), up2_row (by omega)]; exact hS.2.1.1) ?_
            refine X_iconst (v := nI 1) dX8_readChair_66 (by decide) ?_
            refine X_iadd dX8_readChair_67 ?_
            refine X_topi (nI_add P.1 1) ?_
            refine X_puti dX8_readChair_68 fkX8_30 rfl rfl (k_10 hSh) ?_
            refine X_iconst (v := nI 1) dX8_readChair_71 (by decide) ?_
            exact X_zret (ty := .boolean) dX8_readChair_72 rfl (by decide) ⟨rfl, _, rfl, rfl, by rw [show rdCh B n i0 P = .ok (e2, adCh P v1 v2) from by simp only [rdCh, hN1, hN2]]; exact ⟨rfl, PST_ch hS2 h8 hv1 hv2⟩⟩
          · exact absurd h_6 (by omega)
    · exact absurd h_3 (nI_m1 (by omega))
set_option maxRecDepth 100000 in
set_option maxHeartbeats 4000000 in
theorem c_readGuest (Γ : pTG) (g : pGG) (mi : pMI) (ml : pML) (hSh : Sh g) (m0 : pMI) (B : Nat → Int32) (n i0 : Nat) (P : PD) (hS : PST m0 mi B n i0 P) (h8 : P.2.1 < 8) : rI Γ 4 mX8_readGuest [.ref 10, .ref 2] g mi ml (fun v m l => l = ml ∧ PRS m0 B n (rdGu B n i0 P) v m) := by
  refine rI_of (by decide +kernel) (Nat.le_of_ble_eq_true rfl) ?_
  refine X_aload_n dX8_readGuest_0 rfl ?_
  refine X_iconst (v := nI 0) dX8_readGuest_1 (by decide) ?_
  refine X_bipush (v := nI 23) dX8_readGuest_2 (by decide) ?_
  match hN1 : numR B n i0 0 24 with
  | .error (k1, p1) =>
    obtain ⟨q1, hq1, hC1⟩ := c_numE Γ g mi ml hSh B n i0 hS.1 0 24 (nI 23) (by omega) (by omega) (hH_of (by omega)) hN1
    refine X_callVI dX8_readGuest_4 mkX8_95 (k_2 hSh) (hC1) rfl rfl (by decide) (Nat.le_of_ble_eq_true rfl) ?_
    refine X_istore_n dX8_readGuest_7 (by decide) ?_
    refine X_iload_n dX8_readGuest_8 rfl ?_
    refine X_iconst (v := -1) dX8_readGuest_9 (by decide) ?_
    refine X_icmp_ne 17 dX8_readGuest_10 (by decide) (fun h_1 => ?_) (fun h_1 => ?_)
    · exact absurd rfl h_1
    · refine X_iconst (v := -1) dX8_readGuest_13 (by decide) ?_
      refine X_goto 24 dX8_readGuest_14 (by decide) ?_
      refine X_istore_n dX8_readGuest_24 (by decide) ?_
      refine X_iload_n dX8_readGuest_25 rfl ?_
      refine X_iconst (v := -1) dX8_readGuest_26 (by decide) ?_
      refine X_icmp_ne 34 dX8_readGuest_27 (by decide) (fun h_2 => ?_) (fun h_2 => ?_)
      · exact absurd rfl h_2
      · refine X_iconst (v := -1) dX8_readGuest_30 (by decide) ?_
        refine X_goto 43 dX8_readGuest_31 (by decide) ?_
        refine X_istore dX8_readGuest_43 (by decide) ?_
        refine X_iload dX8_readGuest_45 rfl ?_
        refine X_iconst (v := -1) dX8_readGuest_47 (by decide) ?_
        refine X_icmp_ne 55 dX8_readGuest_48 (by decide) (fun h_3 => ?_) (fun h_3 => ?_)
        · exact absurd rfl h_3
        · refine X_iconst (v := -1) dX8_readGuest_51 (by decide) ?_
          refine X_goto 62 dX8_readGuest_52 (by decide) ?_
          refine X_istore dX8_readGuest_62 (by decide) ?_
          refine X_iload dX8_readGuest_64 rfl ?_
          refine X_iconst (v := -1) dX8_readGuest_66 (by decide) ?_
          refine X_icmp_eq 79 dX8_readGuest_67 (by decide) (fun h_4 => ?_) (fun h_4 => ?_)
          · refine X_iconst (v := nI 0) dX8_readGuest_79 (by decide) ?_
            exact X_zret (ty := .boolean) dX8_readGuest_80 rfl (by decide) ⟨rfl, _, rfl, rfl, by rw [show rdGu B n i0 P = .error (k1, p1) from by simp only [rdGu, hN1]]; exact ⟨rfl, PER_of hS (fun i h1 h2 => by rw [up2_row h1, up2_row h1, up2_row h1]) ((up2_n (by omega)).trans up2_s) up2_s⟩⟩
          · exact absurd rfl h_4
  | .ok (v1, e1) =>
    obtain ⟨hC1, he1, hi1, hl1, hv1⟩ := c_numOK Γ g mi ml hSh B n i0 hS.1 0 24 (nI 23) (by omega) (by omega) (hH_of (by omega)) hN1
    have hS1 := PST_at hS he1
    refine X_callVI dX8_readGuest_4 mkX8_95 (k_2 hSh) (hC1) rfl rfl (by decide) (Nat.le_of_ble_eq_true rfl) ?_
    refine X_istore_n dX8_readGuest_7 (by decide) ?_
    refine X_iload_n dX8_readGuest_8 rfl ?_
    refine X_iconst (v := -1) dX8_readGuest_9 (by decide) ?_
    refine X_icmp_ne 17 dX8_readGuest_10 (by decide) (fun h_5 => ?_) (fun h_5 => ?_)
    · refine X_aload_n dX8_readGuest_17 rfl ?_
      refine X_iconst (v := nI 0) dX8_readGuest_18 (by decide) ?_
      refine X_bipush (v := nI 22) dX8_readGuest_19 (by decide) ?_
      match hN2 : numR B n e1 0 23 with
      | .error (k2, p2) =>
        obtain ⟨q2, hq2, hC2⟩ := c_numE Γ g (up2 mi 2 2 (nI e1)) ml hSh B n e1 hS1.1 0 23 (nI 22) (by omega) (by omega) (hH_of (by omega)) hN2
        refine X_callVI dX8_readGuest_21 mkX8_95 (k_2 hSh) (hC2) rfl rfl (by decide) (Nat.le_of_ble_eq_true rfl) ?_
        refine X_istore_n dX8_readGuest_24 (by decide) ?_
        refine X_iload_n dX8_readGuest_25 rfl ?_
        refine X_iconst (v := -1) dX8_readGuest_26 (by decide) ?_
        refine X_icmp_ne 34 dX8_readGuest_27 (by decide) (fun h_6 => ?_) (fun h_6 => ?_)
        · exact absurd rfl h_6
        · refine X_iconst (v := -1) dX8_readGuest_30 (by decide) ?_
          refine X_goto 43 dX8_readGuest_31 (by decide) ?_
          refine X_istore dX8_readGuest_43 (by decide) ?_
          refine X_iload dX8_readGuest_45 rfl ?_
          refine X_iconst (v := -1) dX8_readGuest_47 (by decide) ?_
          refine X_icmp_ne 55 dX8_readGuest_48 (by decide) (fun h_7 => ?_) (fun h_7 => ?_)
          · exact absurd rfl h_7
          · refine X_iconst (v := -1) dX8_readGuest_51 (by decide) ?_
            refine X_goto 62 dX8_readGuest_52 (by decide) ?_
            refine X_istore dX8_readGuest_62 (by decide) ?_
            refine X_iload dX8_readGuest_64 rfl ?_
            refine X_iconst (v := -1) dX8_readGuest_66 (by decide) ?_
            refine X_icmp_eq 79 dX8_readGuest_67 (by decide) (fun h_8 => ?_) (fun h_8 => ?_)
            · refine X_iconst (v := nI 0) dX8_readGuest_79 (by decide) ?_
              exact X_zret (ty := .boolean) dX8_readGuest_80 rfl (by decide) ⟨rfl, _, rfl, rfl, by rw [show rdGu B n i0 P = .error (k2, p2) from by simp only [rdGu, hN1, hN2]]; exact ⟨rfl, PER_of hS1 (fun i h1 h2 => by rw [up2_row h1, up2_row h1, up2_row h1]) ((up2_n (by omega)).trans up2_s) up2_s⟩⟩
            · exact absurd rfl h_8
      | .ok (v2, e2) =>
        obtain ⟨hC2, he2, hi2, hl2, hv2⟩ := c_numOK Γ g (up2 mi 2 2 (nI e1)) ml hSh B n e1 hS1.1 0 23 (nI 22) (by omega) (by omega) (hH_of (by omega)) hN2
        have hS2 := PST_at hS1 he2
        refine X_callVI dX8_readGuest_21 mkX8_95 (k_2 hSh) (hC2) rfl rfl (by decide) (Nat.le_of_ble_eq_true rfl) ?_
        refine X_istore_n dX8_readGuest_24 (by decide) ?_
        refine X_iload_n dX8_readGuest_25 rfl ?_
        refine X_iconst (v := -1) dX8_readGuest_26 (by decide) ?_
        refine X_icmp_ne 34 dX8_readGuest_27 (by decide) (fun h_9 => ?_) (fun h_9 => ?_)
        · refine X_aload_n dX8_readGuest_34 rfl ?_
          refine X_iload_n dX8_readGuest_35 rfl ?_
          refine X_iconst (v := nI 1) dX8_readGuest_36 (by decide) ?_
          refine X_iadd dX8_readGuest_37 ?_
          refine X_topi (nI_add v2 1) ?_
          refine X_bipush (v := nI 23) dX8_readGuest_38 (by decide) ?_
          match hN3 : numR B n e2 (v2 + 1) 24 with
          | .error (k3, p3) =>
            obtain ⟨q3, hq3, hC3⟩ := c_numE Γ g (up2 (up2 mi 2 2 (nI e1)) 2 2 (nI e2)) ml hSh B n e2 hS2.1 (v2 + 1) 24 (nI 23) (by omega) (by omega) (hH_of (by omega)) hN3
            refine X_callVI dX8_readGuest_40 mkX8_95 (k_2 hSh) (hC3) rfl rfl (by decide) (Nat.le_of_ble_eq_true rfl) ?_
            refine X_istore dX8_readGuest_43 (by decide) ?_
            refine X_iload dX8_readGuest_45 rfl ?_
            refine X_iconst (v := -1) dX8_readGuest_47 (by decide) ?_
            refine X_icmp_ne 55 dX8_readGuest_48 (by decide) (fun h_10 => ?_) (fun h_10 => ?_)
            · exact absurd rfl h_10
            · refine X_iconst (v := -1) dX8_readGuest_51 (by decide) ?_
              refine X_goto 62 dX8_readGuest_52 (by decide) ?_
              refine X_istore dX8_readGuest_62 (by decide) ?_
              refine X_iload dX8_readGuest_64 rfl ?_
              refine X_iconst (v := -1) dX8_readGuest_66 (by decide) ?_
              refine X_icmp_eq 79 dX8_readGuest_67 (by decide) (fun h_11 => ?_) (fun h_11 => ?_)
              · refine X_iconst (v := nI 0) dX8_readGuest_79 (by decide) ?_
                exact X_zret (ty := .boolean) dX8_readGuest_80 rfl (by decide) ⟨rfl, _, rfl, rfl, by rw [show rdGu B n i0 P = .error (k3, p3) from by simp only [rdGu, hN1, hN2, hN3]]; exact ⟨rfl, PER_of hS2 (fun i h1 h2 => by rw [up2_row h1, up2_row h1, up2_row h1]) ((up2_n (by omega)).trans up2_s) up2_s⟩⟩
              · exact absurd rfl h_11
          | .ok (v3, e3) =>
            obtain ⟨hC3, he3, hi3, hl3, hv3⟩ := c_numOK Γ g (up2 (up2 mi 2 2 (nI e1)) 2 2 (nI e2)) ml hSh B n e2 hS2.1 (v2 + 1) 24 (nI 23) (by omega) (by omega) (hH_of (by omega)) hN3
            have hS3 := PST_at hS2 he3
            refine X_callVI dX8_readGuest_40 mkX8_95 (k_2 hSh) (hC3) rfl rfl (by decide) (Nat.le_of_ble_eq_true rfl) ?_
            refine X_istore dX8_readGuest_43 (by decide) ?_
            refine X_iload dX8_readGuest_45 rfl ?_
            refine X_iconst (v := -1) dX8_readGuest_47 (by decide) ?_
            refine X_icmp_ne 55 dX8_readGuest_48 (by decide) (fun h_12 => ?_) (fun h_12 => ?_)
            · refine X_aload_n dX8_readGuest_55 rfl ?_
              refine X_iconst (v := nI 0) dX8_readGuest_56 (by decide) ?_
              refine X_bipush (v := nI 9) dX8_readGuest_57 (by decide) ?_
              match hN4 : numR B n e3 0 10 with
              | .error (k4, p4) =>
                obtain ⟨q4, hq4, hC4⟩ := c_numE Γ g (up2 (up2 (up2 mi 2 2 (nI e1)) 2 2 (nI e2)) 2 2 (nI e3)) ml hSh B n e3 hS3.1 0 10 (nI 9) (by omega) (by omega) (hH_of (by omega)) hN4
                refine X_callVI dX8_readGuest_59 mkX8_95 (k_2 hSh) (hC4) rfl rfl (by decide) (Nat.le_of_ble_eq_true rfl) ?_
                refine X_istore dX8_readGuest_62 (by decide) ?_
                refine X_iload dX8_readGuest_64 rfl ?_
                refine X_iconst (v := -1) dX8_readGuest_66 (by decide) ?_
                refine X_icmp_eq 79 dX8_readGuest_67 (by decide) (fun h_13 => ?_) (fun h_13 => ?_)
                · refine X_iconst (v := nI 0) dX8_readGuest_79 (by decide) ?_
                  exact X_zret (ty := .boolean) dX8_readGuest_80 rfl (by decide) ⟨rfl, _, rfl, rfl, by rw [show rdGu B n i0 P = .error (k4, p4) from by simp only [rdGu, hN1, hN2, hN3, hN4]]; exact ⟨rfl, PER_of hS3 (fun i h1 h2 => by rw [up2_row h1, up2_row h1, up2_row h1]) ((up2_n (by omega)).trans up2_s) up2_s⟩⟩
                · exact absurd rfl h_13
              | .ok (v4, e4) =>
                obtain ⟨hC4, he4, hi4, hl4, hv4⟩ := c_numOK Γ g (up2 (up2 (up2 mi 2 2 (nI e1)) 2 2 (nI e2)) 2 2 (nI e3)) ml hSh B n e3 hS3.1 0 10 (nI 9) (by omega) (by omega) (hH_of (by omega)) hN4
                have hS4 := PST_at hS3 he4
                refine X_callVI dX8_readGuest_59 mkX8_95 (k_2 hSh) (hC4) rfl rfl (by decide) (Nat.le_of_ble_eq_true rfl) ?_
                refine X_istore dX8_readGuest_62 (by decide) ?_
                refine X_iload dX8_readGuest_64 rfl ?_
                refine X_iconst (v := -1) dX8_readGuest_66 (by decide) ?_
                refine X_icmp_eq 79 dX8_readGuest_67 (by decide) (fun h_14 => ?_) (fun h_14 => ?_)
                · exact absurd h_14 (nI_m1 (by omega))
                · refine X_aload_n dX8_readGuest_70 rfl ?_
                  refine X_geti dX8_readGuest_71 fkX8_34 rfl (k_10 hSh) ?_
                  rw [hS4.2.1.2.1]
                  refine X_bipush (v := nI 8) dX8_readGuest_74 (by decide) ?_
                  refine X_icmp_ltN (a := P.2.1) (b := 8) 81 dX8_readGuest_76 (by decide) (by omega) (by omega) (fun h_15 => ?_) (fun h_15 => ?_)
                  · refine X_aload_n dX8_readGuest_81 rfl ?_
                    refine X_getr (a := 13) dX8_readGuest_82 fkX8_18 rfl (k_10 hSh) (r_10_2 hSh) ?_
                    refine X_aload_n dX8_readGuest_85 rfl ?_
                    refine X_geti dX8_readGuest_86 fkX8_34 rfl (k_10 hSh) ?_
                    rw [hS4.2.1.2.1]
                    refine X_iload_n dX8_readGuest_89 rfl ?_
                    refine X_iast P.2.1 dX8_readGuest_90 (k_13 hSh) rfl (by omega) ?_
                    refine X_aload_n dX8_readGuest_91 rfl ?_
                    refine X_getr (a := 14) dX8_readGuest_92 fkX8_21 rfl (k_10 hSh) (r_10_3 hSh) ?_
                    refine X_aload_n dX8_readGuest_95 rfl ?_
                    refine X_geti dX8_readGuest_96 fkX8_34 rfl (k_10 hSh) ?_
                    refine X_topi (show (up2 (up2 (up2 (up2 (up2 mi 2 2 (nI e1)) 2 2 (nI e2)) 2 2 (nI e3)) 2 2 (nI e4)) 13 P.2.1 (nI v1)) 10 10 = nI P.2.1 by rw [up2_row (by omega), up2_row (by omega), up2_row (by omega), up2_row (by omega), up2_row (by omega)]; exact hS.2.1.2.1) ?_
                    refine X_iload_n dX8_readGuest_99 rfl ?_
                    refine X_iast P.2.1 dX8_readGuest_100 (k_14 hSh) rfl (by omega) ?_
                    refine X_aload_n dX8_readGuest_101 rfl ?_
                    refine X_getr (a := 15) dX8_readGuest_102 fkX8_24 rfl (k_10 hSh) (r_10_4 hSh) ?_
                    refine X_aload_n dX8_readGuest_105 rfl ?_
                    refine X_geti dX8_readGuest_106 fkX8_34 rfl (k_10 hSh) ?_
                    refine X_topi (show (up2 (up2 (up2 (up2 (up2 (up2 mi 2 2 (nI e1)) 2 2 (nI e2)) 2 2 (nI e3)) 2 2 (nI e4)) 13 P.2.1 (nI v1)) 14 P.2.1 (nI v2)) 10 10 = nI P.2.1 by rw [up2_row (by omega), up2_row (by omega), up2_row (by omega), up2_row (by omega), up2_row (by omega), up2_row (by omega)]; exact hS.2.1.2.1) ?_
                    refine X_iload dX8_readGuest_109 rfl ?_
                    refine X_iast P.2.1 dX8_readGuest_111 (k_15 hSh) rfl (by omega) ?_
                    refine X_aload_n dX8_readGuest_112 rfl ?_
                    refine X_getr (a := 16) dX8_readGuest_113 fkX8_27 rfl (k_10 hSh) (r_10_5 hSh) ?_
                    refine X_aload_n dX8_readGuest_116 rfl ?_
                    refine X_geti dX8_readGuest_117 fkX8_34 rfl (k_10 hSh) ?_
                    refine X_topi (show (up2 (up2 (up2 (up2 (up2 (up2 (up2 mi 2 2 (nI e1)) 2 2 (nI e2)) 2 2 (nI e3)) 2 2 (nI e4)) 13 P.2.1 (nI v1)) 14 P.2.1 (nI v2)) 15 P.2.1 (nI v3)) 10 10 = nI P.2.1 by rw [up2_row (by omega), up2_row (by omega), up2_row (by omega), up2_row (by omega), up2_row (by omega), up2_row (by omega), up2_row (by omega)]; exact hS.2.1.2.1) ?_
                    refine X_iload dX8_readGuest_120 rfl ?_
                    refine X_iast P.2.1 dX8_readGuest_122 (k_16 hSh) rfl (by omega) ?_
                    refine X_aload_n dX8_readGuest_123 rfl ?_
                    refine X_dup dX8_readGuest_124 rfl ?_
                    refine X_geti dX8_readGuest_125 fkX8_34 rfl (k_10 hSh) ?_
                    refine X_topi (show (up2 (up2 (up2 (up2 (up2 (up2 (up2 (up2 mi 2 2 (nI e1)) 2 2 (nI e2)) 2 2 (nI e3)) 2 2 (nI e4)) 13 P.2.1 (nI v1)) 14 P.2.1 (nI v2)) 15 P.2.1 (nI v3)) 16 P.2.1 (nI v4)) 10 10 = nI P.2.1 by rw [up2_row (by omega), up2_row (by omega), up2_row (by omega), up2_row (by omega), up2_row (by omega), up2_row (by omega), up2_row (by omega), up2_row (by omega)]; exact hS.2.1.2.1) ?_
                    refine X_iconst (v := nI 1) dX8_readGuest_128 (by decide) ?_
                    refine X_iadd dX8_readGuest_129 ?_
                    refine X_topi (nI_add P.2.1 1) ?_
                    refine X_puti dX8_readGuest_130 fkX8_34 rfl rfl (k_10 hSh) ?_
                    refine X_iconst (v := nI 1) dX8_readGuest_133 (by decide) ?_
                    exact X_zret (ty := .boolean) dX8_readGuest_134 rfl (by decide) ⟨rfl, _, rfl, rfl, by rw [show rdGu B n i0 P = .ok (e4, adGu P v1 v2 v3 v4) from by simp only [rdGu, hN1, hN2, hN3, hN4]]; exact ⟨rfl, PST_gu hS4 h8 hv1 hv2 (by omega) hv3 hv4⟩⟩
                  · exact absurd h_15 (by omega)
            · exact absurd h_12 (nI_m1 (by omega))
        · exact absurd h_9 (nI_m1 (by omega))
    · exact absurd h_5 (nI_m1 (by omega))
set_option maxRecDepth 100000 in
set_option maxHeartbeats 4000000 in
theorem c_readNum2 (Γ : pTG) (g : pGG) (mi : pMI) (ml : pML) (hSh : Sh g) (m0 : pMI) (B : Nat → Int32) (n i0 : Nat) (P : PD) (hS : PST m0 mi B n i0 P) : rI Γ 5 mX8_readNumbers [.ref 10, .ref 2, .int (nI 2)] g mi ml (fun v m l => l = ml ∧ PRS m0 B n (rd1 B n i0 0 24 (seGo P)) v m) := by
  refine rI_of (by decide +kernel) (Nat.le_of_ble_eq_true rfl) ?_
  refine X_iload_n dX8_readNumbers_0 rfl ?_
  refine X_tableIn 44 dX8_readNumbers_1 (by decide) (by decide) rfl (by decide) ?_
  refine X_aload_n dX8_readNumbers_44 rfl ?_
  refine X_aload_n dX8_readNumbers_45 rfl ?_
  refine X_iconst (v := nI 0) dX8_readNumbers_46 (by decide) ?_
  refine X_bipush (v := nI 23) dX8_readNumbers_47 (by decide) ?_
  match hN1 : numR B n i0 0 24 with
  | .error (k1, p1) =>
    obtain ⟨q1, hq1, hC1⟩ := c_numE Γ g mi ml hSh B n i0 hS.1 0 24 (nI 23) (by omega) (by omega) (hH_of (by omega)) hN1
    refine X_callVI dX8_readNumbers_49 mkX8_95 (k_2 hSh) (hC1) rfl rfl (by decide) (Nat.le_of_ble_eq_true rfl) ?_
    refine X_puti dX8_readNumbers_52 fkX8_37 rfl rfl (k_10 hSh) ?_
    refine X_aload_n dX8_readNumbers_55 rfl ?_
    refine X_geti dX8_readNumbers_56 fkX8_37 rfl (k_10 hSh) ?_
    refine X_topi (show (up2 (up2 (up2 (up2 mi 2 2 (nI q1)) 2 3 (nI k1)) 2 4 (nI p1)) 10 6 (-1)) 10 6 = -1 by rw [up2_s]) ?_
    refine X_iconst (v := -1) dX8_readNumbers_59 (by decide) ?_
    refine X_icmp_eq 67 dX8_readNumbers_60 (by decide) (fun h_1 => ?_) (fun h_1 => ?_)
    · refine X_iconst (v := nI 0) dX8_readNumbers_67 (by decide) ?_
      exact X_zret (ty := .boolean) dX8_readNumbers_68 rfl (by decide) ⟨rfl, _, rfl, rfl, by rw [show rd1 B n i0 0 24 (seGo P) = .error (k1, p1) from by simp only [rd1, hN1]]; exact ⟨rfl, PER_of hS (fun i h1 h2 => by rw [up2_row (by omega), up2_row h1, up2_row h1, up2_row h1]) ((congrFun (up2_row (by omega)) _).trans ((up2_n (by omega)).trans up2_s)) ((congrFun (up2_row (by omega)) _).trans up2_s)⟩⟩
    · exact absurd rfl h_1
  | .ok (v1, e1) =>
    obtain ⟨hC1, he1, hi1, hl1, hv1⟩ := c_numOK Γ g mi ml hSh B n i0 hS.1 0 24 (nI 23) (by omega) (by omega) (hH_of (by omega)) hN1
    have hS1 := PST_at hS he1
    refine X_callVI dX8_readNumbers_49 mkX8_95 (k_2 hSh) (hC1) rfl rfl (by decide) (Nat.le_of_ble_eq_true rfl) ?_
    refine X_puti dX8_readNumbers_52 fkX8_37 rfl rfl (k_10 hSh) ?_
    refine X_aload_n dX8_readNumbers_55 rfl ?_
    refine X_geti dX8_readNumbers_56 fkX8_37 rfl (k_10 hSh) ?_
    refine X_topi (show (up2 (up2 mi 2 2 (nI e1)) 10 6 (nI v1)) 10 6 = nI v1 by rw [up2_s]) ?_
    refine X_iconst (v := -1) dX8_readNumbers_59 (by decide) ?_
    refine X_icmp_eq 67 dX8_readNumbers_60 (by decide) (fun h_2 => ?_) (fun h_2 => ?_)
    · exact absurd h_2 (nI_m1 (by omega))
    · refine X_iconst (v := nI 1) dX8_readNumbers_63 (by decide) ?_
      refine X_goto 68 dX8_readNumbers_64 (by decide) ?_
      exact X_zret (ty := .boolean) dX8_readNumbers_68 rfl (by decide) ⟨rfl, _, rfl, rfl, by rw [show rd1 B n i0 0 24 (seGo P) = .ok (e1, seGo P v1) from by simp only [rd1, hN1]]; exact ⟨rfl, PST_f hS1 (Or.inl ⟨rfl, rfl, hv1⟩)⟩⟩
set_option maxRecDepth 100000 in
set_option maxHeartbeats 4000000 in
theorem c_readNum3 (Γ : pTG) (g : pGG) (mi : pMI) (ml : pML) (hSh : Sh g) (m0 : pMI) (B : Nat → Int32) (n i0 : Nat) (P : PD) (hS : PST m0 mi B n i0 P) : rI Γ 5 mX8_readNumbers [.ref 10, .ref 2, .int (nI 3)] g mi ml (fun v m l => l = ml ∧ PRS m0 B n (rd1 B n i0 1 24 (seUn P)) v m) := by
  refine rI_of (by decide +kernel) (Nat.le_of_ble_eq_true rfl) ?_
  refine X_iload_n dX8_readNumbers_0 rfl ?_
  refine X_tableIn 69 dX8_readNumbers_1 (by decide) (by decide) rfl (by decide) ?_
  refine X_aload_n dX8_readNumbers_69 rfl ?_
  refine X_aload_n dX8_readNumbers_70 rfl ?_
  refine X_iconst (v := nI 1) dX8_readNumbers_71 (by decide) ?_
  refine X_bipush (v := nI 23) dX8_readNumbers_72 (by decide) ?_
  match hN1 : numR B n i0 1 24 with
  | .error (k1, p1) =>
    obtain ⟨q1, hq1, hC1⟩ := c_numE Γ g mi ml hSh B n i0 hS.1 1 24 (nI 23) (by omega) (by omega) (hH_of (by omega)) hN1
    refine X_callVI dX8_readNumbers_74 mkX8_95 (k_2 hSh) (hC1) rfl rfl (by decide) (Nat.le_of_ble_eq_true rfl) ?_
    refine X_puti dX8_readNumbers_77 fkX8_40 rfl rfl (k_10 hSh) ?_
    refine X_aload_n dX8_readNumbers_80 rfl ?_
    refine X_geti dX8_readNumbers_81 fkX8_40 rfl (k_10 hSh) ?_
    refine X_topi (show (up2 (up2 (up2 (up2 mi 2 2 (nI q1)) 2 3 (nI k1)) 2 4 (nI p1)) 10 7 (-1)) 10 7 = -1 by rw [up2_s]) ?_
    refine X_iconst (v := -1) dX8_readNumbers_84 (by decide) ?_
    refine X_icmp_eq 92 dX8_readNumbers_85 (by decide) (fun h_1 => ?_) (fun h_1 => ?_)
    · refine X_iconst (v := nI 0) dX8_readNumbers_92 (by decide) ?_
      exact X_zret (ty := .boolean) dX8_readNumbers_93 rfl (by decide) ⟨rfl, _, rfl, rfl, by rw [show rd1 B n i0 1 24 (seUn P) = .error (k1, p1) from by simp only [rd1, hN1]]; exact ⟨rfl, PER_of hS (fun i h1 h2 => by rw [up2_row (by omega), up2_row h1, up2_row h1, up2_row h1]) ((congrFun (up2_row (by omega)) _).trans ((up2_n (by omega)).trans up2_s)) ((congrFun (up2_row (by omega)) _).trans up2_s)⟩⟩
    · exact absurd rfl h_1
  | .ok (v1, e1) =>
    obtain ⟨hC1, he1, hi1, hl1, hv1⟩ := c_numOK Γ g mi ml hSh B n i0 hS.1 1 24 (nI 23) (by omega) (by omega) (hH_of (by omega)) hN1
    have hS1 := PST_at hS he1
    refine X_callVI dX8_readNumbers_74 mkX8_95 (k_2 hSh) (hC1) rfl rfl (by decide) (Nat.le_of_ble_eq_true rfl) ?_
    refine X_puti dX8_readNumbers_77 fkX8_40 rfl rfl (k_10 hSh) ?_
    refine X_aload_n dX8_readNumbers_80 rfl ?_
    refine X_geti dX8_readNumbers_81 fkX8_40 rfl (k_10 hSh) ?_
    refine X_topi (show (up2 (up2 mi 2 2 (nI e1)) 10 7 (nI v1)) 10 7 = nI v1 by rw [up2_s]) ?_
    refine X_iconst (v := -1) dX8_readNumbers_84 (by decide) ?_
    refine X_icmp_eq 92 dX8_readNumbers_85 (by decide) (fun h_2 => ?_) (fun h_2 => ?_)
    · exact absurd h_2 (nI_m1 (by omega))
    · refine X_iconst (v := nI 1) dX8_readNumbers_88 (by decide) ?_
      refine X_goto 93 dX8_readNumbers_89 (by decide) ?_
      exact X_zret (ty := .boolean) dX8_readNumbers_93 rfl (by decide) ⟨rfl, _, rfl, rfl, by rw [show rd1 B n i0 1 24 (seUn P) = .ok (e1, seUn P v1) from by simp only [rd1, hN1]]; exact ⟨rfl, PST_f hS1 (Or.inr (Or.inl ⟨rfl, rfl, hl1, hv1⟩))⟩⟩
set_option maxRecDepth 100000 in
set_option maxHeartbeats 4000000 in
theorem c_readNum4 (Γ : pTG) (g : pGG) (mi : pMI) (ml : pML) (hSh : Sh g) (m0 : pMI) (B : Nat → Int32) (n i0 : Nat) (P : PD) (hS : PST m0 mi B n i0 P) : rI Γ 5 mX8_readNumbers [.ref 10, .ref 2, .int (nI 4)] g mi ml (fun v m l => l = ml ∧ PRS m0 B n (rd1 B n i0 0 100 (sePr P)) v m) := by
  refine rI_of (by decide +kernel) (Nat.le_of_ble_eq_true rfl) ?_
  refine X_iload_n dX8_readNumbers_0 rfl ?_
  refine X_tableOut 94 dX8_readNumbers_1 (by decide) (by decide) ?_
  refine X_aload_n dX8_readNumbers_94 rfl ?_
  refine X_aload_n dX8_readNumbers_95 rfl ?_
  refine X_iconst (v := nI 0) dX8_readNumbers_96 (by decide) ?_
  refine X_bipush (v := nI 99) dX8_readNumbers_97 (by decide) ?_
  match hN1 : numR B n i0 0 100 with
  | .error (k1, p1) =>
    obtain ⟨q1, hq1, hC1⟩ := c_numE Γ g mi ml hSh B n i0 hS.1 0 100 (nI 99) (by omega) (by omega) (hH_of (by omega)) hN1
    refine X_callVI dX8_readNumbers_99 mkX8_95 (k_2 hSh) (hC1) rfl rfl (by decide) (Nat.le_of_ble_eq_true rfl) ?_
    refine X_puti dX8_readNumbers_102 fkX8_43 rfl rfl (k_10 hSh) ?_
    refine X_aload_n dX8_readNumbers_105 rfl ?_
    refine X_geti dX8_readNumbers_106 fkX8_43 rfl (k_10 hSh) ?_
    refine X_topi (show (up2 (up2 (up2 (up2 mi 2 2 (nI q1)) 2 3 (nI k1)) 2 4 (nI p1)) 10 8 (-1)) 10 8 = -1 by rw [up2_s]) ?_
    refine X_iconst (v := -1) dX8_readNumbers_109 (by decide) ?_
    refine X_icmp_eq 117 dX8_readNumbers_110 (by decide) (fun h_1 => ?_) (fun h_1 => ?_)
    · refine X_iconst (v := nI 0) dX8_readNumbers_117 (by decide) ?_
      exact X_zret (ty := .boolean) dX8_readNumbers_118 rfl (by decide) ⟨rfl, _, rfl, rfl, by rw [show rd1 B n i0 0 100 (sePr P) = .error (k1, p1) from by simp only [rd1, hN1]]; exact ⟨rfl, PER_of hS (fun i h1 h2 => by rw [up2_row (by omega), up2_row h1, up2_row h1, up2_row h1]) ((congrFun (up2_row (by omega)) _).trans ((up2_n (by omega)).trans up2_s)) ((congrFun (up2_row (by omega)) _).trans up2_s)⟩⟩
    · exact absurd rfl h_1
  | .ok (v1, e1) =>
    obtain ⟨hC1, he1, hi1, hl1, hv1⟩ := c_numOK Γ g mi ml hSh B n i0 hS.1 0 100 (nI 99) (by omega) (by omega) (hH_of (by omega)) hN1
    have hS1 := PST_at hS he1
    refine X_callVI dX8_readNumbers_99 mkX8_95 (k_2 hSh) (hC1) rfl rfl (by decide) (Nat.le_of_ble_eq_true rfl) ?_
    refine X_puti dX8_readNumbers_102 fkX8_43 rfl rfl (k_10 hSh) ?_
    refine X_aload_n dX8_readNumbers_105 rfl ?_
    refine X_geti dX8_readNumbers_106 fkX8_43 rfl (k_10 hSh) ?_
    refine X_topi (show (up2 (up2 mi 2 2 (nI e1)) 10 8 (nI v1)) 10 8 = nI v1 by rw [up2_s]) ?_
    refine X_iconst (v := -1) dX8_readNumbers_109 (by decide) ?_
    refine X_icmp_eq 117 dX8_readNumbers_110 (by decide) (fun h_2 => ?_) (fun h_2 => ?_)
    · exact absurd h_2 (nI_m1 (by omega))
    · refine X_iconst (v := nI 1) dX8_readNumbers_113 (by decide) ?_
      refine X_goto 118 dX8_readNumbers_114 (by decide) ?_
      exact X_zret (ty := .boolean) dX8_readNumbers_118 rfl (by decide) ⟨rfl, _, rfl, rfl, by rw [show rd1 B n i0 0 100 (sePr P) = .ok (e1, sePr P v1) from by simp only [rd1, hN1]]; exact ⟨rfl, PST_f hS1 (Or.inr (Or.inr ⟨rfl, rfl, hv1⟩))⟩⟩
theorem PRS_b {m0 m : pMI} {B : Nat → Int32} {n : Nat} {r : rPD} {v : Int32} (h : PRS m0 B n r v m) : narrow .boolean (.int v) = .int v := by
  unfold PRS at h
  split at h
  · rw [h.1]; decide
  · rw [h.1]; decide
set_option maxRecDepth 100000 in
set_option maxHeartbeats 4000000 in
theorem c_readNum0 (Γ : pTG) (g : pGG) (mi : pMI) (ml : pML) (hSh : Sh g) (m0 : pMI) (B : Nat → Int32) (n i0 : Nat) (P : PD) (hS : PST m0 mi B n i0 P) (h8 : P.1 < 8) : rI Γ 5 mX8_readNumbers [.ref 10, .ref 2, .int (nI 0)] g mi ml (fun v m l => l = ml ∧ PRS m0 B n (rdCh B n i0 P) v m) := by
  refine rI_of (by decide +kernel) (Nat.le_of_ble_eq_true rfl) ?_
  refine X_iload_n dX8_readNumbers_0 rfl ?_
  refine X_tableIn 32 dX8_readNumbers_1 (by decide) (by decide) rfl (by decide) ?_
  refine X_aload_n dX8_readNumbers_32 rfl ?_
  refine X_aload_n dX8_readNumbers_33 rfl ?_
  refine X_callVrI dX8_readNumbers_34 mkX8_88 (k_10 hSh) (c_readChair Γ g mi ml hSh m0 B n i0 P hS h8) rfl rfl (by decide) (Nat.le_of_ble_eq_true rfl) (fun v m l hm => ?_)
  exact X_zret (ty := .boolean) dX8_readNumbers_37 rfl (PRS_b hm.2) ⟨rfl, _, rfl, hm⟩
set_option maxRecDepth 100000 in
set_option maxHeartbeats 4000000 in
theorem c_readNum1 (Γ : pTG) (g : pGG) (mi : pMI) (ml : pML) (hSh : Sh g) (m0 : pMI) (B : Nat → Int32) (n i0 : Nat) (P : PD) (hS : PST m0 mi B n i0 P) (h8 : P.2.1 < 8) : rI Γ 5 mX8_readNumbers [.ref 10, .ref 2, .int (nI 1)] g mi ml (fun v m l => l = ml ∧ PRS m0 B n (rdGu B n i0 P) v m) := by
  refine rI_of (by decide +kernel) (Nat.le_of_ble_eq_true rfl) ?_
  refine X_iload_n dX8_readNumbers_0 rfl ?_
  refine X_tableIn 38 dX8_readNumbers_1 (by decide) (by decide) rfl (by decide) ?_
  refine X_aload_n dX8_readNumbers_38 rfl ?_
  refine X_aload_n dX8_readNumbers_39 rfl ?_
  refine X_callVrI dX8_readNumbers_40 mkX8_92 (k_10 hSh) (c_readGuest Γ g mi ml hSh m0 B n i0 P hS h8) rfl rfl (by decide) (Nat.le_of_ble_eq_true rfl) (fun v m l hm => ?_)
  exact X_zret (ty := .boolean) dX8_readNumbers_43 rfl (PRS_b hm.2) ⟨rfl, _, rfl, hm⟩
theorem c_readNumbers (Γ : pTG) (g : pGG) (mi : pMI) (ml : pML) (hSh : Sh g) (m0 : pMI) (B : Nat → Int32) (n i0 : Nat) (P : PD) (hS : PST m0 mi B n i0 P) (k : Nat) (hk : k < 5) (h8 : ¬ ((k = 0 ∧ P.1 = 8) ∨ (k = 1 ∧ P.2.1 = 8))) : rI Γ 5 mX8_readNumbers [.ref 10, .ref 2, .int (nI k)] g mi ml (fun v m l => l = ml ∧ PRS m0 B n (rdNu B n i0 k P) v m) := by
  have hP := hS.2.2.1
  match k, hk with
  | 0, _ => exact c_readNum0 Γ g mi ml hSh m0 B n i0 P hS (by have := hP.1; omega)
  | 1, _ => exact c_readNum1 Γ g mi ml hSh m0 B n i0 P hS (by have := hP.2.1; omega)
  | 2, _ => exact c_readNum2 Γ g mi ml hSh m0 B n i0 P hS
  | 3, _ => exact c_readNum3 Γ g mi ml hSh m0 B n i0 P hS
  | 4, _ => exact c_readNum4 Γ g mi ml hSh m0 B n i0 P hS
theorem by_lt {B : Nat → Int32} {n i c : Nat} (h : byT B n i = nI c) (hc : c < 1000 := by omega) : i + 1 ≤ n := by
  by_cases q : i < n
  · exact q
  · unfold byT at h; rw [if_neg q] at h; exact absurd h (nI_m1' (by omega))
set_option maxRecDepth 100000 in
set_option maxHeartbeats 4000000 in
theorem c_readClause (Γ : pTG) (g : pGG) (mi : pMI) (ml : pML) (hSh : Sh g) (m0 : pMI) (B : Nat → Int32) (n i0 : Nat) (P : PD) (hS : PST m0 mi B n i0 P) (c : Nat) (hc : c ≤ 60) : rI Γ 7 mX8_readClause [.ref 10, .ref 2, .int (nI c)] g mi ml (fun v m l => l = ml ∧ PRS m0 B n (clR B n i0 c P) v m) := by
  refine rI_of (by decide +kernel) (Nat.le_of_ble_eq_true rfl) ?_
  have hP := hS.2.2.1
  have hP8 := hP.1
  have hG8 := hP.2.1
  have hSw := PST_at hS (wdT_le (B := B) hS.1.2.1)
  refine X_aload_n dX8_readClause_0 rfl ?_
  refine X_ldcS (j := 0) dX8_readClause_1 rfl ?_
  match hW : wIx 0 B n i0 with
  | none =>
    refine X_callVI dX8_readClause_3 mkX8_67 (k_2 hSh) (c_which Γ g mi ml hSh B n i0 hS.1 0 (by decide)) rfl rfl (by decide) (Nat.le_of_ble_eq_true rfl) ?_
    refine X_topi (show oI (whN 0 B n i0) = -1 by rw [whN_eq (by decide), hW]; rfl) ?_
    refine X_istore_n dX8_readClause_6 (by decide) ?_
    refine X_iload_n dX8_readClause_7 rfl ?_
    refine X_iconst (v := -1) dX8_readClause_8 (by decide) ?_
    refine X_icmp_ne 22 dX8_readClause_9 (by decide) (fun h_1 => ?_) (fun h_1 => ?_)
    · exact absurd rfl h_1
    · refine X_aload_n dX8_readClause_12 rfl ?_
      refine X_iconst (v := nI 1) dX8_readClause_13 (by decide) ?_
      refine X_aload_n dX8_readClause_14 rfl ?_
      refine X_geti dX8_readClause_15 fkX8_71 rfl (k_2 hSh) ?_
      rw [hS.1.2.2.2.2]
      refine X_callVI dX8_readClause_18 mkX8_74 (k_2 hSh) (c_fail Γ g mi ml hSh (nI 1) (nI i0)) rfl rfl (by decide) (Nat.le_of_ble_eq_true rfl) ?_
      exact X_zret (ty := .boolean) dX8_readClause_21 rfl (by decide) ⟨rfl, _, rfl, rfl, by rw [show clR B n i0 c P = .error (1, i0) from by simp only [clR, hW]]; exact ⟨rfl, PER_of hS (fun i h1 h2 => by rw [up2_row h1, up2_row h1]) ((up2_n (by omega)).trans up2_s) up2_s⟩⟩
  | some k =>
    have hk5 : k < 5 := (wIx_s hW).1
    refine X_callVI dX8_readClause_3 mkX8_67 (k_2 hSh) (c_which Γ g mi ml hSh B n i0 hS.1 0 (by decide)) rfl rfl (by decide) (Nat.le_of_ble_eq_true rfl) ?_
    refine X_topi (show oI (whN 0 B n i0) = nI k by rw [whN_eq (by decide), hW]; rfl) ?_
    refine X_istore_n dX8_readClause_6 (by decide) ?_
    refine X_iload_n dX8_readClause_7 rfl ?_
    refine X_iconst (v := -1) dX8_readClause_8 (by decide) ?_
    refine X_icmp_ne 22 dX8_readClause_9 (by decide) (fun h_2 => ?_) (fun h_2 => ?_)
    · refine X_iload_n dX8_readClause_22 rfl ?_
      refine X_if_neN (a := k) 35 dX8_readClause_23 (by decide) (by omega) (fun h_3 => ?_) (fun h_3 => ?_)
      · refine X_iload_n dX8_readClause_35 rfl ?_
        refine X_iconst (v := nI 1) dX8_readClause_36 (by decide) ?_
        refine X_icmp_neN (a := k) (b := 1) 53 dX8_readClause_37 (by decide) (by omega) (by omega) (fun h_4 => ?_) (fun h_4 => ?_)
        · refine X_iconst (v := nI 0) dX8_readClause_53 (by decide) ?_
          refine X_istore dX8_readClause_54 (by decide) ?_
          refine X_iload dX8_readClause_56 rfl ?_
          refine X_if_neN (a := 0) 67 dX8_readClause_58 (by decide) (by omega) (fun h_5 => ?_) (fun h_5 => ?_)
          · exact absurd h_5 (by omega)
          · refine X_iload_n dX8_readClause_61 rfl ?_
            refine X_bipush (v := nI 60) dX8_readClause_62 (by decide) ?_
            refine X_icmp_neN (a := c) (b := 60) 77 dX8_readClause_64 (by decide) (by omega) (by omega) (fun h_6 => ?_) (fun h_6 => ?_)
            · refine X_aload_n dX8_readClause_77 rfl ?_
              refine X_callVV dX8_readClause_78 mkX8_78 (k_2 hSh) (c_passWord Γ g mi ml hSh B n i0 hS.1.1 hS.1.2.1 hS.1.2.2.1 hS.1.2.2.2.1 hS.1.2.2.2.2) rfl rfl (by decide) (Nat.le_of_ble_eq_true rfl) ?_
              refine X_aload_n dX8_readClause_81 rfl ?_
              refine X_aload_n dX8_readClause_82 rfl ?_
              refine X_iload_n dX8_readClause_83 rfl ?_
              match hR : rdNu B n (wdT B n i0) k P with
              | .error (c1, p1) =>
                refine X_callVrI dX8_readClause_84 mkX8_81 (k_10 hSh) (c_readNumbers Γ g _ ml hSh m0 B n (wdT B n i0) P hSw k hk5 (by omega)) rfl rfl (by decide) (Nat.le_of_ble_eq_true rfl) (fun v1 m1 l1 hm1 => ?_)
                rw [hR] at hm1
                obtain ⟨hl1, rfl, hm1⟩ := hm1
                rw [hl1]
                refine X_if_eqN (a := 0) 103 dX8_readClause_87 (by decide) (by omega) (fun h_7 => ?_) (fun h_7 => ?_)
                · refine X_iconst (v := nI 0) dX8_readClause_103 (by decide) ?_
                  exact X_zret (ty := .boolean) dX8_readClause_104 rfl (by decide) ⟨rfl, _, rfl, rfl, by rw [show clR B n i0 c P = .error (c1, p1) from by simp only [clR, hW, hR]; exact if_neg (by omega)]; exact ⟨rfl, hm1⟩⟩
                · exact absurd h_7 (by omega)
              | .ok (e1, P1) =>
                refine X_callVrI dX8_readClause_84 mkX8_81 (k_10 hSh) (c_readNumbers Γ g _ ml hSh m0 B n (wdT B n i0) P hSw k hk5 (by omega)) rfl rfl (by decide) (Nat.le_of_ble_eq_true rfl) (fun v1 m1 l1 hm1 => ?_)
                rw [hR] at hm1
                obtain ⟨hl1, rfl, hm1⟩ := hm1
                rw [hl1]
                refine X_if_eqN (a := 1) 103 dX8_readClause_87 (by decide) (by omega) (fun h_8 => ?_) (fun h_8 => ?_)
                · exact absurd h_8 (by omega)
                · refine X_aload_n dX8_readClause_90 rfl ?_
                  refine X_bipush (v := nI 59) dX8_readClause_91 (by decide) ?_
                  by_cases hs : byT B n (skT B n e1) = nI 59
                  ·
                    refine X_callVI dX8_readClause_93 mkX8_84 (k_2 hSh) (c_takeSign1 Γ g m1 ml hSh B n e1 hm1.1 (nI 59) hs) rfl rfl (by decide) (Nat.le_of_ble_eq_true rfl) ?_
                    refine X_if_eqN (a := 1) 103 dX8_readClause_96 (by decide) (by omega) (fun h_9 => ?_) (fun h_9 => ?_)
                    · exact absurd h_9 (by omega)
                    · refine X_iconst (v := nI 1) dX8_readClause_99 (by decide) ?_
                      refine X_goto 104 dX8_readClause_100 (by decide) ?_
                      exact X_zret (ty := .boolean) dX8_readClause_104 rfl (by decide) ⟨rfl, _, rfl, rfl, by rw [show clR B n i0 c P = .ok (skT B n e1 + 1, P1) from by simp only [clR, hW, hR, sgR, hs, if_true]; exact if_neg (by omega)]; exact ⟨rfl, PST_at hm1 (by_lt hs)⟩⟩
                  ·
                    refine X_callVI dX8_readClause_93 mkX8_84 (k_2 hSh) (c_takeSign0 Γ g m1 ml hSh B n e1 hm1.1 (nI 59) hs) rfl rfl (by decide) (Nat.le_of_ble_eq_true rfl) ?_
                    refine X_if_eqN (a := 0) 103 dX8_readClause_96 (by decide) (by omega) (fun h_10 => ?_) (fun h_10 => ?_)
                    · refine X_iconst (v := nI 0) dX8_readClause_103 (by decide) ?_
                      exact X_zret (ty := .boolean) dX8_readClause_104 rfl (by decide) ⟨rfl, _, rfl, rfl, by rw [show clR B n i0 c P = .error (1, skT B n e1) from by simp only [clR, hW, hR, sgR, hs, if_false]; exact if_neg (by omega)]; exact ⟨rfl, PER_of hm1 (fun i h1 h2 => by rw [up2_row h1, up2_row h1, up2_row h1]) ((up2_n (by omega)).trans up2_s) up2_s⟩⟩
                    · exact absurd h_10 (by omega)
            · refine X_aload_n dX8_readClause_67 rfl ?_
              refine X_iconst (v := nI 3) dX8_readClause_68 (by decide) ?_
              refine X_aload_n dX8_readClause_69 rfl ?_
              refine X_geti dX8_readClause_70 fkX8_71 rfl (k_2 hSh) ?_
              rw [hS.1.2.2.2.2]
              refine X_callVI dX8_readClause_73 mkX8_74 (k_2 hSh) (c_fail Γ g mi ml hSh (nI 3) (nI i0)) rfl rfl (by decide) (Nat.le_of_ble_eq_true rfl) ?_
              exact X_zret (ty := .boolean) dX8_readClause_76 rfl (by decide) ⟨rfl, _, rfl, rfl, by rw [show clR B n i0 c P = .error (3, i0) from by simp only [clR, hW]; exact if_pos (by omega)]; exact ⟨rfl, PER_of hS (fun i h1 h2 => by rw [up2_row h1, up2_row h1]) ((up2_n (by omega)).trans up2_s) up2_s⟩⟩
        · refine X_aload_n dX8_readClause_40 rfl ?_
          refine X_geti dX8_readClause_41 fkX8_34 rfl (k_10 hSh) ?_
          rw [hS.2.1.2.1]
          refine X_bipush (v := nI 8) dX8_readClause_44 (by decide) ?_
          refine X_icmp_neN (a := P.2.1) (b := 8) 53 dX8_readClause_46 (by decide) (by omega) (by omega) (fun h_11 => ?_) (fun h_11 => ?_)
          · refine X_iconst (v := nI 0) dX8_readClause_53 (by decide) ?_
            refine X_istore dX8_readClause_54 (by decide) ?_
            refine X_iload dX8_readClause_56 rfl ?_
            refine X_if_neN (a := 0) 67 dX8_readClause_58 (by decide) (by omega) (fun h_12 => ?_) (fun h_12 => ?_)
            · exact absurd h_12 (by omega)
            · refine X_iload_n dX8_readClause_61 rfl ?_
              refine X_bipush (v := nI 60) dX8_readClause_62 (by decide) ?_
              refine X_icmp_neN (a := c) (b := 60) 77 dX8_readClause_64 (by decide) (by omega) (by omega) (fun h_13 => ?_) (fun h_13 => ?_)
              · refine X_aload_n dX8_readClause_77 rfl ?_
                refine X_callVV dX8_readClause_78 mkX8_78 (k_2 hSh) (c_passWord Γ g mi ml hSh B n i0 hS.1.1 hS.1.2.1 hS.1.2.2.1 hS.1.2.2.2.1 hS.1.2.2.2.2) rfl rfl (by decide) (Nat.le_of_ble_eq_true rfl) ?_
                refine X_aload_n dX8_readClause_81 rfl ?_
                refine X_aload_n dX8_readClause_82 rfl ?_
                refine X_iload_n dX8_readClause_83 rfl ?_
                match hR : rdNu B n (wdT B n i0) k P with
                | .error (c1, p1) =>
                  refine X_callVrI dX8_readClause_84 mkX8_81 (k_10 hSh) (c_readNumbers Γ g _ ml hSh m0 B n (wdT B n i0) P hSw k hk5 (by omega)) rfl rfl (by decide) (Nat.le_of_ble_eq_true rfl) (fun v1 m1 l1 hm1 => ?_)
                  rw [hR] at hm1
                  obtain ⟨hl1, rfl, hm1⟩ := hm1
                  rw [hl1]
                  refine X_if_eqN (a := 0) 103 dX8_readClause_87 (by decide) (by omega) (fun h_14 => ?_) (fun h_14 => ?_)
                  · refine X_iconst (v := nI 0) dX8_readClause_103 (by decide) ?_
                    exact X_zret (ty := .boolean) dX8_readClause_104 rfl (by decide) ⟨rfl, _, rfl, rfl, by rw [show clR B n i0 c P = .error (c1, p1) from by simp only [clR, hW, hR]; exact if_neg (by omega)]; exact ⟨rfl, hm1⟩⟩
                  · exact absurd h_14 (by omega)
                | .ok (e1, P1) =>
                  refine X_callVrI dX8_readClause_84 mkX8_81 (k_10 hSh) (c_readNumbers Γ g _ ml hSh m0 B n (wdT B n i0) P hSw k hk5 (by omega)) rfl rfl (by decide) (Nat.le_of_ble_eq_true rfl) (fun v1 m1 l1 hm1 => ?_)
                  rw [hR] at hm1
                  obtain ⟨hl1, rfl, hm1⟩ := hm1
                  rw [hl1]
                  refine X_if_eqN (a := 1) 103 dX8_readClause_87 (by decide) (by omega) (fun h_15 => ?_) (fun h_15 => ?_)
                  · exact absurd h_15 (by omega)
                  · refine X_aload_n dX8_readClause_90 rfl ?_
                    refine X_bipush (v := nI 59) dX8_readClause_91 (by decide) ?_
                    by_cases hs : byT B n (skT B n e1) = nI 59
                    ·
                      refine X_callVI dX8_readClause_93 mkX8_84 (k_2 hSh) (c_takeSign1 Γ g m1 ml hSh B n e1 hm1.1 (nI 59) hs) rfl rfl (by decide) (Nat.le_of_ble_eq_true rfl) ?_
                      refine X_if_eqN (a := 1) 103 dX8_readClause_96 (by decide) (by omega) (fun h_16 => ?_) (fun h_16 => ?_)
                      · exact absurd h_16 (by omega)
                      · refine X_iconst (v := nI 1) dX8_readClause_99 (by decide) ?_
                        refine X_goto 104 dX8_readClause_100 (by decide) ?_
                        exact X_zret (ty := .boolean) dX8_readClause_104 rfl (by decide) ⟨rfl, _, rfl, rfl, by rw [show clR B n i0 c P = .ok (skT B n e1 + 1, P1) from by simp only [clR, hW, hR, sgR, hs, if_true]; exact if_neg (by omega)]; exact ⟨rfl, PST_at hm1 (by_lt hs)⟩⟩
                    ·
                      refine X_callVI dX8_readClause_93 mkX8_84 (k_2 hSh) (c_takeSign0 Γ g m1 ml hSh B n e1 hm1.1 (nI 59) hs) rfl rfl (by decide) (Nat.le_of_ble_eq_true rfl) ?_
                      refine X_if_eqN (a := 0) 103 dX8_readClause_96 (by decide) (by omega) (fun h_17 => ?_) (fun h_17 => ?_)
                      · refine X_iconst (v := nI 0) dX8_readClause_103 (by decide) ?_
                        exact X_zret (ty := .boolean) dX8_readClause_104 rfl (by decide) ⟨rfl, _, rfl, rfl, by rw [show clR B n i0 c P = .error (1, skT B n e1) from by simp only [clR, hW, hR, sgR, hs, if_false]; exact if_neg (by omega)]; exact ⟨rfl, PER_of hm1 (fun i h1 h2 => by rw [up2_row h1, up2_row h1, up2_row h1]) ((up2_n (by omega)).trans up2_s) up2_s⟩⟩
                      · exact absurd h_17 (by omega)
              · refine X_aload_n dX8_readClause_67 rfl ?_
                refine X_iconst (v := nI 3) dX8_readClause_68 (by decide) ?_
                refine X_aload_n dX8_readClause_69 rfl ?_
                refine X_geti dX8_readClause_70 fkX8_71 rfl (k_2 hSh) ?_
                rw [hS.1.2.2.2.2]
                refine X_callVI dX8_readClause_73 mkX8_74 (k_2 hSh) (c_fail Γ g mi ml hSh (nI 3) (nI i0)) rfl rfl (by decide) (Nat.le_of_ble_eq_true rfl) ?_
                exact X_zret (ty := .boolean) dX8_readClause_76 rfl (by decide) ⟨rfl, _, rfl, rfl, by rw [show clR B n i0 c P = .error (3, i0) from by simp only [clR, hW]; exact if_pos (by omega)]; exact ⟨rfl, PER_of hS (fun i h1 h2 => by rw [up2_row h1, up2_row h1]) ((up2_n (by omega)).trans up2_s) up2_s⟩⟩
          · refine X_iconst (v := nI 1) dX8_readClause_49 (by decide) ?_
            refine X_goto 54 dX8_readClause_50 (by decide) ?_
            refine X_istore dX8_readClause_54 (by decide) ?_
            refine X_iload dX8_readClause_56 rfl ?_
            refine X_if_neN (a := 1) 67 dX8_readClause_58 (by decide) (by omega) (fun h_18 => ?_) (fun h_18 => ?_)
            · refine X_aload_n dX8_readClause_67 rfl ?_
              refine X_iconst (v := nI 3) dX8_readClause_68 (by decide) ?_
              refine X_aload_n dX8_readClause_69 rfl ?_
              refine X_geti dX8_readClause_70 fkX8_71 rfl (k_2 hSh) ?_
              rw [hS.1.2.2.2.2]
              refine X_callVI dX8_readClause_73 mkX8_74 (k_2 hSh) (c_fail Γ g mi ml hSh (nI 3) (nI i0)) rfl rfl (by decide) (Nat.le_of_ble_eq_true rfl) ?_
              exact X_zret (ty := .boolean) dX8_readClause_76 rfl (by decide) ⟨rfl, _, rfl, rfl, by rw [show clR B n i0 c P = .error (3, i0) from by simp only [clR, hW]; exact if_pos (by omega)]; exact ⟨rfl, PER_of hS (fun i h1 h2 => by rw [up2_row h1, up2_row h1]) ((up2_n (by omega)).trans up2_s) up2_s⟩⟩
            · exact absurd h_18 (by omega)
      · refine X_aload_n dX8_readClause_26 rfl ?_
        refine X_geti dX8_readClause_27 fkX8_30 rfl (k_10 hSh) ?_
        rw [hS.2.1.1]
        refine X_bipush (v := nI 8) dX8_readClause_30 (by decide) ?_
        refine X_icmp_eqN (a := P.1) (b := 8) 49 dX8_readClause_32 (by decide) (by omega) (by omega) (fun h_19 => ?_) (fun h_19 => ?_)
        · refine X_iconst (v := nI 1) dX8_readClause_49 (by decide) ?_
          refine X_goto 54 dX8_readClause_50 (by decide) ?_
          refine X_istore dX8_readClause_54 (by decide) ?_
          refine X_iload dX8_readClause_56 rfl ?_
          refine X_if_neN (a := 1) 67 dX8_readClause_58 (by decide) (by omega) (fun h_20 => ?_) (fun h_20 => ?_)
          · refine X_aload_n dX8_readClause_67 rfl ?_
            refine X_iconst (v := nI 3) dX8_readClause_68 (by decide) ?_
            refine X_aload_n dX8_readClause_69 rfl ?_
            refine X_geti dX8_readClause_70 fkX8_71 rfl (k_2 hSh) ?_
            rw [hS.1.2.2.2.2]
            refine X_callVI dX8_readClause_73 mkX8_74 (k_2 hSh) (c_fail Γ g mi ml hSh (nI 3) (nI i0)) rfl rfl (by decide) (Nat.le_of_ble_eq_true rfl) ?_
            exact X_zret (ty := .boolean) dX8_readClause_76 rfl (by decide) ⟨rfl, _, rfl, rfl, by rw [show clR B n i0 c P = .error (3, i0) from by simp only [clR, hW]; exact if_pos (by omega)]; exact ⟨rfl, PER_of hS (fun i h1 h2 => by rw [up2_row h1, up2_row h1]) ((up2_n (by omega)).trans up2_s) up2_s⟩⟩
          · exact absurd h_20 (by omega)
        · refine X_iload_n dX8_readClause_35 rfl ?_
          refine X_iconst (v := nI 1) dX8_readClause_36 (by decide) ?_
          refine X_icmp_neN (a := k) (b := 1) 53 dX8_readClause_37 (by decide) (by omega) (by omega) (fun h_21 => ?_) (fun h_21 => ?_)
          · refine X_iconst (v := nI 0) dX8_readClause_53 (by decide) ?_
            refine X_istore dX8_readClause_54 (by decide) ?_
            refine X_iload dX8_readClause_56 rfl ?_
            refine X_if_neN (a := 0) 67 dX8_readClause_58 (by decide) (by omega) (fun h_22 => ?_) (fun h_22 => ?_)
            · exact absurd h_22 (by omega)
            · refine X_iload_n dX8_readClause_61 rfl ?_
              refine X_bipush (v := nI 60) dX8_readClause_62 (by decide) ?_
              refine X_icmp_neN (a := c) (b := 60) 77 dX8_readClause_64 (by decide) (by omega) (by omega) (fun h_23 => ?_) (fun h_23 => ?_)
              · refine X_aload_n dX8_readClause_77 rfl ?_
                refine X_callVV dX8_readClause_78 mkX8_78 (k_2 hSh) (c_passWord Γ g mi ml hSh B n i0 hS.1.1 hS.1.2.1 hS.1.2.2.1 hS.1.2.2.2.1 hS.1.2.2.2.2) rfl rfl (by decide) (Nat.le_of_ble_eq_true rfl) ?_
                refine X_aload_n dX8_readClause_81 rfl ?_
                refine X_aload_n dX8_readClause_82 rfl ?_
                refine X_iload_n dX8_readClause_83 rfl ?_
                match hR : rdNu B n (wdT B n i0) k P with
                | .error (c1, p1) =>
                  refine X_callVrI dX8_readClause_84 mkX8_81 (k_10 hSh) (c_readNumbers Γ g _ ml hSh m0 B n (wdT B n i0) P hSw k hk5 (by omega)) rfl rfl (by decide) (Nat.le_of_ble_eq_true rfl) (fun v1 m1 l1 hm1 => ?_)
                  rw [hR] at hm1
                  obtain ⟨hl1, rfl, hm1⟩ := hm1
                  rw [hl1]
                  refine X_if_eqN (a := 0) 103 dX8_readClause_87 (by decide) (by omega) (fun h_24 => ?_) (fun h_24 => ?_)
                  · refine X_iconst (v := nI 0) dX8_readClause_103 (by decide) ?_
                    exact X_zret (ty := .boolean) dX8_readClause_104 rfl (by decide) ⟨rfl, _, rfl, rfl, by rw [show clR B n i0 c P = .error (c1, p1) from by simp only [clR, hW, hR]; exact if_neg (by omega)]; exact ⟨rfl, hm1⟩⟩
                  · exact absurd h_24 (by omega)
                | .ok (e1, P1) =>
                  refine X_callVrI dX8_readClause_84 mkX8_81 (k_10 hSh) (c_readNumbers Γ g _ ml hSh m0 B n (wdT B n i0) P hSw k hk5 (by omega)) rfl rfl (by decide) (Nat.le_of_ble_eq_true rfl) (fun v1 m1 l1 hm1 => ?_)
                  rw [hR] at hm1
                  obtain ⟨hl1, rfl, hm1⟩ := hm1
                  rw [hl1]
                  refine X_if_eqN (a := 1) 103 dX8_readClause_87 (by decide) (by omega) (fun h_25 => ?_) (fun h_25 => ?_)
                  · exact absurd h_25 (by omega)
                  · refine X_aload_n dX8_readClause_90 rfl ?_
                    refine X_bipush (v := nI 59) dX8_readClause_91 (by decide) ?_
                    by_cases hs : byT B n (skT B n e1) = nI 59
                    ·
                      refine X_callVI dX8_readClause_93 mkX8_84 (k_2 hSh) (c_takeSign1 Γ g m1 ml hSh B n e1 hm1.1 (nI 59) hs) rfl rfl (by decide) (Nat.le_of_ble_eq_true rfl) ?_
                      refine X_if_eqN (a := 1) 103 dX8_readClause_96 (by decide) (by omega) (fun h_26 => ?_) (fun h_26 => ?_)
                      · exact absurd h_26 (by omega)
                      · refine X_iconst (v := nI 1) dX8_readClause_99 (by decide) ?_
                        refine X_goto 104 dX8_readClause_100 (by decide) ?_
                        exact X_zret (ty := .boolean) dX8_readClause_104 rfl (by decide) ⟨rfl, _, rfl, rfl, by rw [show clR B n i0 c P = .ok (skT B n e1 + 1, P1) from by simp only [clR, hW, hR, sgR, hs, if_true]; exact if_neg (by omega)]; exact ⟨rfl, PST_at hm1 (by_lt hs)⟩⟩
                    ·
                      refine X_callVI dX8_readClause_93 mkX8_84 (k_2 hSh) (c_takeSign0 Γ g m1 ml hSh B n e1 hm1.1 (nI 59) hs) rfl rfl (by decide) (Nat.le_of_ble_eq_true rfl) ?_
                      refine X_if_eqN (a := 0) 103 dX8_readClause_96 (by decide) (by omega) (fun h_27 => ?_) (fun h_27 => ?_)
                      · refine X_iconst (v := nI 0) dX8_readClause_103 (by decide) ?_
                        exact X_zret (ty := .boolean) dX8_readClause_104 rfl (by decide) ⟨rfl, _, rfl, rfl, by rw [show clR B n i0 c P = .error (1, skT B n e1) from by simp only [clR, hW, hR, sgR, hs, if_false]; exact if_neg (by omega)]; exact ⟨rfl, PER_of hm1 (fun i h1 h2 => by rw [up2_row h1, up2_row h1, up2_row h1]) ((up2_n (by omega)).trans up2_s) up2_s⟩⟩
                      · exact absurd h_27 (by omega)
              · refine X_aload_n dX8_readClause_67 rfl ?_
                refine X_iconst (v := nI 3) dX8_readClause_68 (by decide) ?_
                refine X_aload_n dX8_readClause_69 rfl ?_
                refine X_geti dX8_readClause_70 fkX8_71 rfl (k_2 hSh) ?_
                rw [hS.1.2.2.2.2]
                refine X_callVI dX8_readClause_73 mkX8_74 (k_2 hSh) (c_fail Γ g mi ml hSh (nI 3) (nI i0)) rfl rfl (by decide) (Nat.le_of_ble_eq_true rfl) ?_
                exact X_zret (ty := .boolean) dX8_readClause_76 rfl (by decide) ⟨rfl, _, rfl, rfl, by rw [show clR B n i0 c P = .error (3, i0) from by simp only [clR, hW]; exact if_pos (by omega)]; exact ⟨rfl, PER_of hS (fun i h1 h2 => by rw [up2_row h1, up2_row h1]) ((up2_n (by omega)).trans up2_s) up2_s⟩⟩
          · refine X_aload_n dX8_readClause_40 rfl ?_
            refine X_geti dX8_readClause_41 fkX8_34 rfl (k_10 hSh) ?_
            rw [hS.2.1.2.1]
            refine X_bipush (v := nI 8) dX8_readClause_44 (by decide) ?_
            refine X_icmp_neN (a := P.2.1) (b := 8) 53 dX8_readClause_46 (by decide) (by omega) (by omega) (fun h_28 => ?_) (fun h_28 => ?_)
            · refine X_iconst (v := nI 0) dX8_readClause_53 (by decide) ?_
              refine X_istore dX8_readClause_54 (by decide) ?_
              refine X_iload dX8_readClause_56 rfl ?_
              refine X_if_neN (a := 0) 67 dX8_readClause_58 (by decide) (by omega) (fun h_29 => ?_) (fun h_29 => ?_)
              · exact absurd h_29 (by omega)
              · refine X_iload_n dX8_readClause_61 rfl ?_
                refine X_bipush (v := nI 60) dX8_readClause_62 (by decide) ?_
                refine X_icmp_neN (a := c) (b := 60) 77 dX8_readClause_64 (by decide) (by omega) (by omega) (fun h_30 => ?_) (fun h_30 => ?_)
                · refine X_aload_n dX8_readClause_77 rfl ?_
                  refine X_callVV dX8_readClause_78 mkX8_78 (k_2 hSh) (c_passWord Γ g mi ml hSh B n i0 hS.1.1 hS.1.2.1 hS.1.2.2.1 hS.1.2.2.2.1 hS.1.2.2.2.2) rfl rfl (by decide) (Nat.le_of_ble_eq_true rfl) ?_
                  refine X_aload_n dX8_readClause_81 rfl ?_
                  refine X_aload_n dX8_readClause_82 rfl ?_
                  refine X_iload_n dX8_readClause_83 rfl ?_
                  match hR : rdNu B n (wdT B n i0) k P with
                  | .error (c1, p1) =>
                    refine X_callVrI dX8_readClause_84 mkX8_81 (k_10 hSh) (c_readNumbers Γ g _ ml hSh m0 B n (wdT B n i0) P hSw k hk5 (by omega)) rfl rfl (by decide) (Nat.le_of_ble_eq_true rfl) (fun v1 m1 l1 hm1 => ?_)
                    rw [hR] at hm1
                    obtain ⟨hl1, rfl, hm1⟩ := hm1
                    rw [hl1]
                    refine X_if_eqN (a := 0) 103 dX8_readClause_87 (by decide) (by omega) (fun h_31 => ?_) (fun h_31 => ?_)
                    · refine X_iconst (v := nI 0) dX8_readClause_103 (by decide) ?_
                      exact X_zret (ty := .boolean) dX8_readClause_104 rfl (by decide) ⟨rfl, _, rfl, rfl, by rw [show clR B n i0 c P = .error (c1, p1) from by simp only [clR, hW, hR]; exact if_neg (by omega)]; exact ⟨rfl, hm1⟩⟩
                    · exact absurd h_31 (by omega)
                  | .ok (e1, P1) =>
                    refine X_callVrI dX8_readClause_84 mkX8_81 (k_10 hSh) (c_readNumbers Γ g _ ml hSh m0 B n (wdT B n i0) P hSw k hk5 (by omega)) rfl rfl (by decide) (Nat.le_of_ble_eq_true rfl) (fun v1 m1 l1 hm1 => ?_)
                    rw [hR] at hm1
                    obtain ⟨hl1, rfl, hm1⟩ := hm1
                    rw [hl1]
                    refine X_if_eqN (a := 1) 103 dX8_readClause_87 (by decide) (by omega) (fun h_32 => ?_) (fun h_32 => ?_)
                    · exact absurd h_32 (by omega)
                    · refine X_aload_n dX8_readClause_90 rfl ?_
                      refine X_bipush (v := nI 59) dX8_readClause_91 (by decide) ?_
                      by_cases hs : byT B n (skT B n e1) = nI 59
                      ·
                        refine X_callVI dX8_readClause_93 mkX8_84 (k_2 hSh) (c_takeSign1 Γ g m1 ml hSh B n e1 hm1.1 (nI 59) hs) rfl rfl (by decide) (Nat.le_of_ble_eq_true rfl) ?_
                        refine X_if_eqN (a := 1) 103 dX8_readClause_96 (by decide) (by omega) (fun h_33 => ?_) (fun h_33 => ?_)
                        · exact absurd h_33 (by omega)
                        · refine X_iconst (v := nI 1) dX8_readClause_99 (by decide) ?_
                          refine X_goto 104 dX8_readClause_100 (by decide) ?_
                          exact X_zret (ty := .boolean) dX8_readClause_104 rfl (by decide) ⟨rfl, _, rfl, rfl, by rw [show clR B n i0 c P = .ok (skT B n e1 + 1, P1) from by simp only [clR, hW, hR, sgR, hs, if_true]; exact if_neg (by omega)]; exact ⟨rfl, PST_at hm1 (by_lt hs)⟩⟩
                      ·
                        refine X_callVI dX8_readClause_93 mkX8_84 (k_2 hSh) (c_takeSign0 Γ g m1 ml hSh B n e1 hm1.1 (nI 59) hs) rfl rfl (by decide) (Nat.le_of_ble_eq_true rfl) ?_
                        refine X_if_eqN (a := 0) 103 dX8_readClause_96 (by decide) (by omega) (fun h_34 => ?_) (fun h_34 => ?_)
                        · refine X_iconst (v := nI 0) dX8_readClause_103 (by decide) ?_
                          exact X_zret (ty := .boolean) dX8_readClause_104 rfl (by decide) ⟨rfl, _, rfl, rfl, by rw [show clR B n i0 c P = .error (1, skT B n e1) from by simp only [clR, hW, hR, sgR, hs, if_false]; exact if_neg (by omega)]; exact ⟨rfl, PER_of hm1 (fun i h1 h2 => by rw [up2_row h1, up2_row h1, up2_row h1]) ((up2_n (by omega)).trans up2_s) up2_s⟩⟩
                        · exact absurd h_34 (by omega)
                · refine X_aload_n dX8_readClause_67 rfl ?_
                  refine X_iconst (v := nI 3) dX8_readClause_68 (by decide) ?_
                  refine X_aload_n dX8_readClause_69 rfl ?_
                  refine X_geti dX8_readClause_70 fkX8_71 rfl (k_2 hSh) ?_
                  rw [hS.1.2.2.2.2]
                  refine X_callVI dX8_readClause_73 mkX8_74 (k_2 hSh) (c_fail Γ g mi ml hSh (nI 3) (nI i0)) rfl rfl (by decide) (Nat.le_of_ble_eq_true rfl) ?_
                  exact X_zret (ty := .boolean) dX8_readClause_76 rfl (by decide) ⟨rfl, _, rfl, rfl, by rw [show clR B n i0 c P = .error (3, i0) from by simp only [clR, hW]; exact if_pos (by omega)]; exact ⟨rfl, PER_of hS (fun i h1 h2 => by rw [up2_row h1, up2_row h1]) ((up2_n (by omega)).trans up2_s) up2_s⟩⟩
            · refine X_iconst (v := nI 1) dX8_readClause_49 (by decide) ?_
              refine X_goto 54 dX8_readClause_50 (by decide) ?_
              refine X_istore dX8_readClause_54 (by decide) ?_
              refine X_iload dX8_readClause_56 rfl ?_
              refine X_if_neN (a := 1) 67 dX8_readClause_58 (by decide) (by omega) (fun h_35 => ?_) (fun h_35 => ?_)
              · refine X_aload_n dX8_readClause_67 rfl ?_
                refine X_iconst (v := nI 3) dX8_readClause_68 (by decide) ?_
                refine X_aload_n dX8_readClause_69 rfl ?_
                refine X_geti dX8_readClause_70 fkX8_71 rfl (k_2 hSh) ?_
                rw [hS.1.2.2.2.2]
                refine X_callVI dX8_readClause_73 mkX8_74 (k_2 hSh) (c_fail Γ g mi ml hSh (nI 3) (nI i0)) rfl rfl (by decide) (Nat.le_of_ble_eq_true rfl) ?_
                exact X_zret (ty := .boolean) dX8_readClause_76 rfl (by decide) ⟨rfl, _, rfl, rfl, by rw [show clR B n i0 c P = .error (3, i0) from by simp only [clR, hW]; exact if_pos (by omega)]; exact ⟨rfl, PER_of hS (fun i h1 h2 => by rw [up2_row h1, up2_row h1]) ((up2_n (by omega)).trans up2_s) up2_s⟩⟩
              · exact absurd h_35 (by omega)
    · exact absurd h_2 (nI_m1 (by omega))
theorem byT_end {B : Nat → Int32} {n i : Nat} (hB : ∀ k, k < n → ¬ B k = -1) : byT B n i = -1 ↔ n ≤ i := by
  unfold byT
  by_cases q : i < n
  · rw [if_pos q]; exact ⟨fun h => absurd h (hB i q), fun h => by omega⟩
  · rw [if_neg q]; exact ⟨fun _ => by omega, fun _ => rfl⟩
theorem cl60 {B : Nat → Int32} {n i : Nat} {P : PD} : ∃ e, clR B n i 60 P = .error e := by
  unfold clR
  split
  · exact ⟨_, rfl⟩
  · rw [if_pos (Or.inl rfl)]; exact ⟨_, rfl⟩
def PRZ (m0 : pMI) (B : Nat → Int32) (n : Nat) (r : Except (Nat × Nat) PD) (v : Int32) (m : pMI) : Prop := match r with
  | .error (c, p) => v = nI 0 ∧ PER m0 m c p
  | .ok P => v = nI 1 ∧ ∃ e, PST m0 m B n e P
set_option maxRecDepth 100000 in
set_option maxHeartbeats 4000000 in
theorem plX (Γ : pTG) (g : pGG) (m0 : pMI) (B : Nat → Int32) (n : Nat) (hB : ∀ k, k < n → ¬ B k = -1) (hSh : Sh g) : ∀ (f : Nat) (mi : pMI) (ml : pML) (i0 c : Nat) (P : PD), PST m0 mi B n i0 P → c + f = 61 → c ≤ 60 → XW Γ 8 0 0 mX8_read 6 [(2, .int (nI c)), (0, .ref 10), (1, .ref 2)] [] g mi ml (qrI g (fun v m l => l = ml ∧ PRZ m0 B n (plR B n f i0 c P) v m))
  | 0, mi, ml, i0, c, P, hS, hc, hc6 => absurd hc (by omega)
  | f + 1, mi, ml, i0, c, P, hS, hc, hc6 => by
    have hS1 := PST_at hS (skT_le (B := B) hS.1.2.1)
    refine X_iload_n dX8_read_6 rfl ?_
    refine X_bipush (v := nI 60) dX8_read_7 (by decide) ?_
    refine X_icmp_gtN (a := c) (b := 60) 39 dX8_read_9 (by decide) (by omega) (by omega) (fun h_1 => ?_) (fun h_1 => ?_)
    · exact absurd h_1 (by omega)
    · refine X_aload_n dX8_read_12 rfl ?_
      refine X_callVI dX8_read_13 mkX8_55 (k_2 hSh) (c_peek Γ g mi ml hSh B n i0 hS.1.1 hS.1.2.1 hS.1.2.2.1 hS.1.2.2.2.1 hS.1.2.2.2.2) rfl rfl (by decide) (Nat.le_of_ble_eq_true rfl) ?_
      refine X_iconst (v := -1) dX8_read_16 (by decide) ?_
      refine X_icmp_ne 22 dX8_read_17 (by decide) (fun h_2 => ?_) (fun h_2 => ?_)
      · refine X_aload_n dX8_read_22 rfl ?_
        refine X_aload_n dX8_read_23 rfl ?_
        refine X_iload_n dX8_read_24 rfl ?_
        match hC : clR B n (skT B n i0) c P with
        | .error (c1, p1) =>
          refine X_callVrI dX8_read_25 mkX8_61 (k_10 hSh) (c_readClause Γ g _ ml hSh m0 B n (skT B n i0) P hS1 c (by omega)) rfl rfl (by decide) (Nat.le_of_ble_eq_true rfl) (fun v1 m1 l1 hm1 => ?_)
          rw [hC] at hm1
          obtain ⟨hl1, rfl, hm1⟩ := hm1
          rw [hl1]
          refine X_if_neN (a := 0) 33 dX8_read_28 (by decide) (by omega) (fun h_3 => ?_) (fun h_3 => ?_)
          · exact absurd h_3 (by omega)
          · refine X_iconst (v := nI 0) dX8_read_31 (by decide) ?_
            exact X_zret (ty := .boolean) dX8_read_32 rfl (by decide) ⟨rfl, _, rfl, rfl, by rw [show plR B n (f + 1) i0 c P = .error (c1, p1) from (if_neg (fun q => absurd ((byT_end hB).mpr q) (by assumption))).trans (by simp only [hC])]; exact ⟨rfl, hm1⟩⟩
        | .ok (e1, P1) =>
          have hc60 : c ≠ 60 := fun q => by subst q; obtain ⟨e, he⟩ := cl60 (B := B) (n := n) (i := skT B n i0) (P := P); rw [he] at hC; cases hC
          refine X_callVrI dX8_read_25 mkX8_61 (k_10 hSh) (c_readClause Γ g _ ml hSh m0 B n (skT B n i0) P hS1 c (by omega)) rfl rfl (by decide) (Nat.le_of_ble_eq_true rfl) (fun v1 m1 l1 hm1 => ?_)
          rw [hC] at hm1
          obtain ⟨hl1, rfl, hm1⟩ := hm1
          rw [hl1]
          refine X_if_neN (a := 1) 33 dX8_read_28 (by decide) (by omega) (fun h_4 => ?_) (fun h_4 => ?_)
          · refine X_iinc (v := nI (c + 1)) dX8_read_33 rfl (nI_1 _) (by decide) ?_
            refine X_goto 6 dX8_read_36 (by decide) ?_
            refine X_L [(2, .int (nI (c + 1))), (0, .ref 10), (1, .ref 2)] ⟨rfl, rfl, rfl, trivial⟩ ?_
            have hz := plX Γ g m0 B n hB hSh f m1 ml e1 (c + 1) P1 hm1 (by omega) (by omega)
            rw [show plR B n (f + 1) i0 c P = plR B n f e1 (c + 1) P1 from (if_neg (fun q => absurd ((byT_end hB).mpr q) (by assumption))).trans (by simp only [hC])]
            exact hz
          · exact absurd h_4 (by omega)
      · refine X_iconst (v := nI 1) dX8_read_20 (by decide) ?_
        exact X_zret (ty := .boolean) dX8_read_21 rfl (by decide) ⟨rfl, _, rfl, rfl, by rw [show plR B n (f + 1) i0 c P = .ok P from if_pos ((byT_end hB).mp (by assumption))]; exact ⟨rfl, _, hS1⟩⟩
theorem PST_0 {mi : pMI} {B : Nat → Int32} {n i : Nat} (h : TXT mi B n i) : PST mi (up2 (up2 (up2 (up2 (up2 mi 10 9 (nI 0)) 10 10 (nI 0)) 10 6 (nI 0)) 10 7 (nI 2)) 10 8 (nI 0)) B n i P00 := by
  have hr : ∀ i, i ≠ 10 → (up2 (up2 (up2 (up2 (up2 mi 10 9 (nI 0)) 10 10 (nI 0)) 10 6 (nI 0)) 10 7 (nI 2)) 10 8 (nI 0)) i = mi i := fun i hi => by rw [up2_row hi, up2_row hi, up2_row hi, up2_row hi, up2_row hi]
  refine ⟨TXT_row h (hr 1 (by omega)) (by rw [hr 2 (by omega)]) (by rw [hr 2 (by omega)]), ⟨?_, ?_, ?_, ?_, ?_, fun c hc => absurd hc (by show ¬ c < 0; omega), fun b hb => absurd hb (by show ¬ b < 0; omega)⟩, ⟨by decide, by decide, by decide, by decide, by decide, by decide, fun c hc => absurd hc (by show ¬ c < 0; omega), fun b hb => absurd hb (by show ¬ b < 0; omega)⟩, by rw [hr 2 (by omega)], by rw [hr 2 (by omega)], fun i h1 h2 => hr i (by omega)⟩
  · simp [up2, P00]
  · simp [up2, P00]
  · simp [up2, P00]
  · simp [up2, P00]
  · simp [up2, P00]
set_option maxRecDepth 100000 in
set_option maxHeartbeats 4000000 in
theorem c_Pread (Γ : pTG) (g : pGG) (mi : pMI) (ml : pML) (hSh : Sh g) (B : Nat → Int32) (n i0 : Nat) (hB : ∀ k, k < n → ¬ B k = -1) (hT : TXT mi B n i0) : rI Γ 8 mX8_read [.ref 10, .ref 2] g mi ml (fun v m l => l = ml ∧ PRZ mi B n (plR B n 61 i0 0 P00) v m) := by
  refine rI_of (by decide +kernel) (Nat.le_of_ble_eq_true rfl) ?_
  refine X_aload_n dX8_read_0 rfl ?_
  refine X_callVV dX8_read_1 mkX8_52 (k_10 hSh) (c_Pclear10 Γ g mi ml hSh) rfl rfl (by decide) (Nat.le_of_ble_eq_true rfl) ?_
  refine X_iconst (v := nI 0) dX8_read_4 (by decide) ?_
  refine X_istore_n dX8_read_5 (by decide) ?_
  refine X_L [(2, .int (nI 0)), (0, .ref 10), (1, .ref 2)] ⟨rfl, rfl, rfl, trivial⟩ ?_
  exact plX Γ g mi B n hB hSh 61 (up2 (up2 (up2 (up2 (up2 mi 10 9 (nI 0)) 10 10 (nI 0)) 10 6 (nI 0)) 10 7 (nI 2)) 10 8 (nI 0)) ml i0 0 P00 (PST_0 hT) (by decide) (by decide)

/-! ===== texts of the program's own ===== -/
theorem okv_s {g : pGG} {i : Nat} (h : 999 ≤ i) : okv g (.ref i) := fun q e => by cases e; exact Or.inr h
def MLT (own : String) (idx : Nat) (M' : pMD) (na : Nat) : Prop := M'.1.cls = RJ0 ∧ (∀ w ∈ wsV own idx RJ0 M'.1 [Cond.code M'.1 M'.2.1 M'.2.2.1 M'.2.2.2], w ∈ uxW) ∧ (M'.1.cls ≠ "java/lang/invoke/MethodHandle" ∧ M'.1.cls ≠ "java/lang/invoke/VarHandle" ∧ (parseMethodDescriptor M'.1.desc).map (fun d => d.parameters.length) = some na) ∧ M'.2.2.1 ≤ 29
theorem X_callT {Γ : pTG} {d k n : Nat} {M : pMD} {pc : Nat} {L : List (Nat × Value)} {S : List Value} {g : pGG} {mi : pMI} {ml : pML} {Q : pQ} {d' k' n' idx j na : Nat} {M' : pMD} {As S0 : List Value} {Q' : pQ} (hd : decode M.2.1 pc = .ok (.invokevirtual idx, 3)) (hm : MLT M.1.cls idx M' na) (hj : j < 4) (hC : CT Γ d' k' n' M' ((.ref (1000 + j)) :: As) g mi ml Q') (hS0 : S0 = As.reverse ++ (.ref (1000 + j)) :: S) (hA : As.length = na) (hd' : d' + 1 ≤ d) (hk' : k' ≤ k) (hn' : n' ≤ n) (hcat : (S.map (fun v => v.category)).sum ≤ 8)
    (kx : ∀ E g' mi' ml', Q' (.inr E) g' mi' ml' → Q (.inr E) g' mi' ml') (kk : ∀ v g' mi' ml', Q' (.inl v) g' mi' ml' → XW Γ d (k - k') (n - n') M (pc + 3) L (v.toList ++ S) g' mi' ml' Q) : XW Γ d k n M pc L S0 g mi ml Q := by
  intro p e s m args below meth cd H locs cells slots mc ms ls ad ad0 n0 R P
  obtain ⟨hc, hE, hS, hl, hRep, hoL, hoS, hr, ha⟩ := P
  subst hS0
  obtain ⟨hcl0, hws, hdd, hmx⟩ := hm
  have had : ad (1000 + j) = Γ.2.2.2.2.2.1 (1 + j) := by rw [show 1000 + j = 999 + (1 + j) by omega]; exact hRep.2.2.2.1 (1 + j)
  obtain ⟨hArev, hSk0⟩ := okS_app hoS
  have hSk := okS_t hSk0
  have hokA : okS g ((.ref (1000 + j)) :: As) := okS_c (okS_h hSk0) (fun v hv => hArev v (List.mem_reverse.mpr hv))
  obtain ⟨hr1, hr2, hr3, hr4, hr5, hr6⟩ := id hr
  have hgi : GoodIn uxW (wsV M.1.cls idx RJ0 M'.1 (wsM M')) := ugood fun w hw => by
    rcases List.mem_append.mp hw with h | h
    · exact hws w (List.mem_append_left _ h)
    · rcases List.mem_cons.mp h with rfl | h
      · exact hws _ (List.mem_append_right _ List.mem_cons_self)
      · exact h
  have hrun := vx_runV (H := H) (locs := locs) (cells := cells) (slots := slots) (below := below) (e := e) (meth := meth) (R := R) (g := F0 m pc ls ((As.reverse ++ (.ref (1000 + j)) :: S).map (cv ad))) (rest := S.map (cv ad)) (As := As.map (cv ad)) (b := ad (1000 + j)) (C := RJ0) (n := na) (bytes := M'.2.1) (maxL := M'.2.2.1) (ret := M'.2.2.2)
    ⟨hc.1, hc.2.1, hc.2.2.1, hc.2.2.2.1, hc.2.2.2.2.1⟩ (hC ad hokA) (cwV na hc.2.2.2.2.1 hgi rfl rfl rfl ⟨hcl0, hdd⟩ ⟨by show d' + 1 ≤ R.frames; omega, by show 8 + (M'.2.2.1 + 11) + 50 * d' ≤ R.locals; omega⟩)
    ⟨blindM, by rw [had]; exact vk_recv (adK := fun j => Γ.2.2.2.2.2.1 (1 + j)) (i := j) hE.2.2.2.2.2.2.2.1.1 hj hS, fun U hU hW => ⟨rfl, by rw [hU]; exact hRep, extS_warm hE hW hS hU⟩⟩ rfl (by rw [List.length_map]; exact hA) hl.1 (by show (As.reverse ++ (.ref (1000 + j)) :: S).map (cv ad) = _; rw [List.map_append, List.map_reverse]; rfl) (lv_room (by rw [catS]; exact hcat)) hd ⟨by omega, by omega⟩
  refine xrun hrun hS (fun v g' mi' ml' ad' H1 locs1 hq hRep' hag hn hok hS1 => ?_) (fun E g' mi' ml' ad' H1 locs1 q9 ce hq hRep' hag hn hS1 hce hcv hcl => ?_)
  · have h2 : ∀ j, ad' (999 + j) = ad (999 + j) := fun j => (hRep'.2.2.2.1 j).trans (hRep.2.2.2.1 j).symm
    have e1 : (v.map (cv ad')).toList ++ S.map (cv ad) = (v.toList ++ S).map (cv ad') := by rw [List.map_append, cvS hSk hag h2]; cases v <;> rfl
    rw [e1]
    refine kk v g' mi' ml' hq p e s m args below meth cd H1 locs1 (cells + k') (slots + n') mc ms ls ad' ad0 n0 R ⟨hc, hE, hS1, ?_, hRep', fun q h => okv_up (hoL q h) hn, ?_, ?_, fun i hi => (hag i (Nat.lt_of_lt_of_le hi ha.2)).trans (ha.1 i hi), Nat.le_trans ha.2 hn⟩
    · rw [cvL hoL hag h2]; exact hl
    · intro x hx
      rcases List.mem_append.mp hx with hx | hx
      · cases v with
        | none => cases hx
        | some y => cases hx with
          | head => exact hok _ rfl
          | tail _ h => cases h
      · exact okv_up (hSk x hx) hn
    · exact ⟨by omega, by omega, hr.2.2.1, hr.2.2.2.1, hr.2.2.2.2⟩
  · refine vx_out (fun x hx => (hc.2.2.2.2.2.2.2.1 x hx).elim) hc.2.2.2.2.2.2.1 hce hcv hcl (fun t ht hvm => ⟨⟨g', mi', ml', ad', kx E g' mi' ml' hq, by rw [ht]; exact hRep', fun i hi => (hag i (Nat.lt_of_lt_of_le hi ha.2)).trans (ha.1 i hi), Nat.le_trans ha.2 hn⟩, va_S.F hS1 ht⟩) hS1.2.2 (by omega) (by omega)
theorem X_sval {Γ : pTG} {d k n : Nat} {M : pMD} {pc : Nat} {L : List (Nat × Value)} {S : List Value} {g : pGG} {mi : pMI} {ml : pML} {Q : pQ} {j idx : Nat} (hj : j < 4) (hd : decode M.2.1 pc = .ok (.getfield idx, 3)) (hw : Cond.fieldLink M.1.cls idx "java/lang/String" "value" "[B" ∈ uxW) (h : XW Γ d k n M (pc + 3) L (.ref (1100 + j) :: S) g mi ml Q) : XW Γ d k n M pc L (.ref (1000 + j) :: S) g mi ml Q := by
  intro p e s m args below meth c H locs cells slots mc ms ls ad ad0 n0 R P
  obtain ⟨hc, hE, hS, hl, hRep, hoL, hoS, hr, ha⟩ := P
  have had : ad (1000 + j) = Γ.2.2.2.2.2.1 (1 + j) := by rw [show 1000 + j = 999 + (1 + j) by omega]; exact hRep.2.2.2.1 (1 + j)
  have hav : ad (1100 + j) = Γ.2.2.2.2.2.1 (101 + j) := by rw [show 1100 + j = 999 + (101 + j) by omega]; exact hRep.2.2.2.1 (101 + j)
  have hz := h p e s m args below meth c H locs cells slots mc ms ls ad ad0 n0 R ⟨hc, hE, hS, hl, hRep, hoL, okS_c (okv_s (by omega)) (okS_t hoS), hr, ha⟩
  have e1 : (Value.ref (1100 + j) :: S).map (cv ad) = .ref (Γ.2.2.2.2.2.1 (101 + j)) :: S.map (cv ad) := by rw [← hav]; rfl
  have e2 : (Value.ref (1000 + j) :: S).map (cv ad) = .ref (Γ.2.2.2.2.2.1 (1 + j)) :: S.map (cv ad) := by rw [← had]; rfl
  rw [e1] at hz
  rw [e2]
  exact vk_getf hc.1 hc.2.1 (hE.2.2.2.2.2.2.2.1.1.1 j hj).2.2.1 hS hc.2.2.2.1 (hc.2.2.2.2.1 _ hw) (fun _ q => q) hd hz
theorem X_scod {Γ : pTG} {d k n : Nat} {M : pMD} {pc : Nat} {L : List (Nat × Value)} {S : List Value} {g : pGG} {mi : pMI} {ml : pML} {Q : pQ} {j idx : Nat} (hj : j < 4) (hd : decode M.2.1 pc = .ok (.getfield idx, 3)) (hw : Cond.fieldLink M.1.cls idx "java/lang/String" "coder" "B" ∈ uxW) (h : XW Γ d k n M (pc + 3) L (.int (nI 0) :: S) g mi ml Q) : XW Γ d k n M pc L (.ref (1000 + j) :: S) g mi ml Q := by
  intro p e s m args below meth c H locs cells slots mc ms ls ad ad0 n0 R P
  obtain ⟨hc, hE, hS, hl, hRep, hoL, hoS, hr, ha⟩ := P
  have had : ad (1000 + j) = Γ.2.2.2.2.2.1 (1 + j) := by rw [show 1000 + j = 999 + (1 + j) by omega]; exact hRep.2.2.2.1 (1 + j)
  have hz := h p e s m args below meth c H locs cells slots mc ms ls ad ad0 n0 R ⟨hc, hE, hS, hl, hRep, hoL, okS_c okv_i (okS_t hoS), hr, ha⟩
  have e2 : (Value.ref (1000 + j) :: S).map (cv ad) = .ref (Γ.2.2.2.2.2.1 (1 + j)) :: S.map (cv ad) := by rw [← had]; rfl
  rw [e2]
  exact vk_getf hc.1 hc.2.1 (hE.2.2.2.2.2.2.2.1.1.1 j hj).2.1 hS hc.2.2.2.1 (hc.2.2.2.2.1 _ hw) (fun _ q => q) hd hz
theorem X_slen {Γ : pTG} {d k n : Nat} {M : pMD} {pc : Nat} {L : List (Nat × Value)} {S : List Value} {g : pGG} {mi : pMI} {ml : pML} {Q : pQ} {j : Nat} (hj : j < 4) (hd : decode M.2.1 pc = .ok (.arraylength, 1)) (h : XW Γ d k n M (pc + 1) L (.int (nI (strLen.getD j 0)) :: S) g mi ml Q) : XW Γ d k n M pc L (.ref (1100 + j) :: S) g mi ml Q := by
  intro p e s m args below meth c H locs cells slots mc ms ls ad ad0 n0 R P
  obtain ⟨hc, hE, hS, hl, hRep, hoL, hoS, hr, ha⟩ := P
  have hav : ad (1100 + j) = Γ.2.2.2.2.2.1 (101 + j) := by rw [show 1100 + j = 999 + (101 + j) by omega]; exact hRep.2.2.2.1 (101 + j)
  have hz := h p e s m args below meth c H locs cells slots mc ms ls ad ad0 n0 R ⟨hc, hE, hS, hl, hRep, hoL, okS_c okv_i (okS_t hoS), hr, ha⟩
  have e2 : (Value.ref (1100 + j) :: S).map (cv ad) = .ref (Γ.2.2.2.2.2.1 (101 + j)) :: S.map (cv ad) := by rw [← hav]; rfl
  rw [e2]
  exact va_tlen hc.1 hc.2.1 (hE.2.2.2.2.2.2.2.1.1.1 j hj).2.2.2 hS rfl hd hz
theorem X_sbal {Γ : pTG} {d k n : Nat} {M : pMD} {pc : Nat} {L : List (Nat × Value)} {S : List Value} {g : pGG} {mi : pMI} {ml : pML} {Q : pQ} {j q : Nat} (hj : j < 4) (hq : q < strLen.getD j 0) (hd : decode M.2.1 pc = .ok (.baload, 1)) (h : XW Γ d k n M (pc + 1) L (.int ((strByt.getD j []).getD q 0) :: S) g mi ml Q) : XW Γ d k n M pc L (.int (nI q) :: .ref (1100 + j) :: S) g mi ml Q := by
  intro p e s m args below meth c H locs cells slots mc ms ls ad ad0 n0 R P
  obtain ⟨hc, hE, hS, hl, hRep, hoL, hoS, hr, ha⟩ := P
  have hav : ad (1100 + j) = Γ.2.2.2.2.2.1 (101 + j) := by rw [show 1100 + j = 999 + (101 + j) by omega]; exact hRep.2.2.2.1 (101 + j)
  have hz := h p e s m args below meth c H locs cells slots mc ms ls ad ad0 n0 R ⟨hc, hE, hS, hl, hRep, hoL, okS_c okv_i (okS_t (okS_t hoS)), hr, ha⟩
  have hl4 : strLen.getD j 0 < 100 := by
    have : j = 0 ∨ j = 1 ∨ j = 2 ∨ j = 3 := by omega
    rcases this with rfl | rfl | rfl | rfl <;> decide
  have e2 : (Value.int (nI q) :: Value.ref (1100 + j) :: S).map (cv ad) = .int (nI q) :: .ref (Γ.2.2.2.2.2.1 (101 + j)) :: S.map (cv ad) := by rw [← hav]; rfl
  rw [e2]
  exact va_tb hc.1 hc.2.1 (hE.2.2.2.2.2.2.2.1.1.1 j hj).2.2.2 hS (nI_in hq (by omega)) (by rw [nI_clamp (by omega)]; rfl) hd hz
theorem X_scmp {Γ : pTG} {d k n : Nat} {M : pMD} {pc : Nat} {L : List (Nat × Value)} {S : List Value} {g : pGG} {mi : pMI} {ml : pML} {Q : pQ} {idx : Nat} (hd : decode M.2.1 pc = .ok (.getstatic idx, 3)) (hw : Cond.fieldLink M.1.cls idx "java/lang/String" "COMPACT_STRINGS" "Z" ∈ uxW) (h : XW Γ d k n M (pc + 3) L (.int (nI 1) :: S) g mi ml Q) : XW Γ d k n M pc L S g mi ml Q := by
  intro p e s m args below meth c H locs cells slots mc ms ls ad ad0 n0 R P
  obtain ⟨hc, hE, hS, hl, hRep, hoL, hoS, hr, ha⟩ := P
  exact va_gets hc.1 hc.2.1 hE.2.2.2.2.2.2.2.1.2.1 hS hc.2.2.2.1 (hc.2.2.2.2.1 _ hw) (fun _ q => q) hd (h p e s m args below meth c H locs cells slots mc ms ls ad ad0 n0 R ⟨hc, hE, hS, hl, hRep, hoL, okS_c okv_i hoS, hr, ha⟩)
theorem X_sfmt {Γ : pTG} {d k n : Nat} {M : pMD} {pc : Nat} {L : List (Nat × Value)} {S : List Value} {g : pGG} {mi : pMI} {ml : pML} {Q : pQ} {idx : Nat} (hd : decode M.2.1 pc = .ok (.getstatic idx, 3)) (hw : Cond.fieldLink M.1.cls idx "jdk/internal/util/Preconditions" "SIOOBE_FORMATTER" "Ljava/util/function/BiFunction;" ∈ uxW) (h1 : XW Γ d k n M (pc + 3) L (.null :: S) g mi ml Q) (h2 : XW Γ d k n M (pc + 3) L (.ref 1010 :: S) g mi ml Q) : XW Γ d k n M pc L S g mi ml Q := by
  intro p e s m args below meth c H locs cells slots mc ms ls ad ad0 n0 R P
  obtain ⟨hc, hE, hS, hl, hRep, hoL, hoS, hr, ha⟩ := P
  rcases hE.2.2.2.2.2.2.2.1.2.2 with hz | hz
  · exact va_gets hc.1 hc.2.1 hz hS hc.2.2.2.1 (hc.2.2.2.2.1 _ hw) (fun _ q => q) hd (h1 p e s m args below meth c H locs cells slots mc ms ls ad ad0 n0 R ⟨hc, hE, hS, hl, hRep, hoL, okS_c okv_n hoS, hr, ha⟩)
  · have hav : ad 1010 = Γ.2.2.2.2.2.1 11 := hRep.2.2.2.1 11
    have hk := h2 p e s m args below meth c H locs cells slots mc ms ls ad ad0 n0 R ⟨hc, hE, hS, hl, hRep, hoL, okS_c (okv_s (by omega)) hoS, hr, ha⟩
    have e1 : (Value.ref 1010 :: S).map (cv ad) = .ref (Γ.2.2.2.2.2.1 11) :: S.map (cv ad) := by rw [← hav]; rfl
    rw [e1] at hk
    exact va_gets hc.1 hc.2.1 hz hS hc.2.2.2.1 (hc.2.2.2.2.1 _ hw) (fun _ q => q) hd hk

/-! ===== right, fits: the reference ===== -/
def mxD (A : AS) : Nat → Nat
  | 0 => 0
  | n + 1 => max (mxD A n) (aB A n 0)
theorem mxD_le {A : AS} : ∀ n k, k < n → aB A k 0 ≤ mxD A n
  | 0, k, h => absurd h (by omega)
  | n + 1, k, h => by
    show _ ≤ max (mxD A n) (aB A n 0)
    by_cases q : k = n
    · subst q; omega
    · have := mxD_le (A := A) n k (by omega); omega
theorem mxD_b {A : AS} (hA : okAS A) : ∀ n, n ≤ aBn A → mxD A n < 61
  | 0, _ => by show 0 < 61; omega
  | n + 1, h => by
    show max (mxD A n) (aB A n 0) < 61
    have h1 := mxD_b hA n (by omega)
    have h2 := (hA.2.2.2.1.2 n (by omega)).1
    omega
def rgB (A : AS) (wh : Nat → Nat) (R0 : Nat → Bool) (d k : Nat) : Bool := R0 k || (decide (aB A k 0 < d) && soB A wh k)
theorem rg_0 {A : AS} {wh : Nat → Nat} {R0 : Nat → Bool} {k : Nat} : rgB A wh R0 0 k = R0 k := by
  unfold rgB
  rw [decide_eq_false (by omega), Bool.false_and, Bool.or_false]
theorem rg_e {A : AS} {wh : Nat → Nat} {R0 : Nat → Bool} {d k : Nat} (h : aB A k 0 < d) : rgB A wh R0 d k = (R0 k || soB A wh k) := by
  unfold rgB
  rw [decide_eq_true h, Bool.true_and]
theorem rg_1 {A : AS} {wh : Nat → Nat} {R0 : Nat → Bool} {d k : Nat} (h : ¬ bI (rgB A wh R0 d k) = 0) : bI (rgB A wh R0 (d + 1) k) = nI 1 := by
  have h := bI_n0.mp h
  have : rgB A wh R0 (d + 1) k = true := by
    unfold rgB at h ⊢
    rw [Bool.or_eq_true, Bool.and_eq_true, decide_eq_true_eq] at h ⊢
    rcases h with h | h
    · exact Or.inl h
    · exact Or.inr ⟨by omega, h.2⟩
  rw [this]; rfl
theorem rg_2 {A : AS} {wh : Nat → Nat} {R0 : Nat → Bool} {d k : Nat} (hd : aB A k 0 = d) (hs : sqd (aP A) (aH A) wh d (aB A k 1) = aB A k 2) : bI (rgB A wh R0 (d + 1) k) = nI 1 := by
  have : rgB A wh R0 (d + 1) k = true := by
    unfold rgB soB
    rw [Bool.or_eq_true, Bool.and_eq_true, decide_eq_true_eq, decide_eq_true_eq]
    exact Or.inr ⟨by omega, by rw [hd]; exact hs⟩
  rw [this]; rfl
theorem rg_3 {A : AS} {wh : Nat → Nat} {R0 : Nat → Bool} {d k : Nat} (h : bI (rgB A wh R0 d k) = 0) (hn : ¬ (aB A k 0 = d ∧ sqd (aP A) (aH A) wh d (aB A k 1) = aB A k 2)) : bI (rgB A wh R0 (d + 1) k) = nI 0 := by
  have h := bI_0.mp h
  have : rgB A wh R0 (d + 1) k = false := by
    unfold rgB at h ⊢
    rw [Bool.or_eq_false_iff] at h ⊢
    refine ⟨h.1, ?_⟩
    rw [← Bool.not_eq_true, Bool.and_eq_true, decide_eq_true_eq]
    rintro ⟨h1, h2⟩
    by_cases q : aB A k 0 = d
    · exact hn ⟨q, by unfold soB at h2; rw [decide_eq_true_eq, q] at h2; exact h2⟩
    · have := h.2
      rw [decide_eq_true (show aB A k 0 < d by omega), h2] at this; cases this
  rw [this]; rfl
theorem nbT {x : Bool} (h : (!x) = true) : x = false := by cases x; rfl; cases h
theorem nbF {x : Bool} (h : (!x) = false) : x = true := by cases x; cases h; rfl
theorem RW_9 {m0 x y : pMI} (h : RW m0 x) (hy : ∀ a, a ≠ 449 → y a = x a) : RW m0 y := by
  obtain ⟨h1, h2, h3⟩ := h
  exact ⟨frW_t h1 ⟨fun i a b c => hy i (by rintro rfl; exact c (by unfold rsR; omega)), fun j hj => by rw [hy 87 (by omega)]⟩, frM2_t h2 (fun i hi => hy i (by omega)), by rw [hy 87 (by omega)]; exact h3⟩
theorem rS_wh {m : pMI} {P : PD} {H : Nat → HBt} {rk : Nat → Nat} {un b c : Nat} (hP : okPD P) (hc : c < 8) (h : rS m P H id rk un) : rS (up2 m 229 b (nI c)) P H (ud id b c) rk un := by
  refine ⟨rfP_w hP h.1 (fun i hi => up2_row (by omega)), rfHb_w h.2.1 (fun i hi => up2_row (by omega)), fun d hd => ?_, fun d hd => by rw [up2_row (by omega)]; exact h.2.2.2.1 d hd, by rw [up2_row (by omega)]; exact h.2.2.2.2⟩
  by_cases q : d = b
  · subst q; rw [up2_s, ud_s]; exact ⟨rfl, hc⟩
  · rw [up2_n q, ud_n q]; exact h.2.2.1 d hd
set_option maxRecDepth 100000 in
set_option maxHeartbeats 4000000 in
theorem r_rightBy_n (Γ : pTG) (g : pGG) (mi : pMI) (ml : pML) (hSh : Sh g) (A : AS) (hA : okAS A) (m0 : pMI) (hR : RI A m0) (hW : RW m0 mi) (wh : Nat → Nat) (hS : rS mi (aP A) (aH A) wh id (aP A).2.2.2.1) (hcm : ∀ b, b < aG A → mi 194 b = nI (sqd (aP A) (aH A) wh 0 b) ∧ sqd (aP A) (aH A) wh 0 b < 24)  : rI Γ 6 mX12_rightBy [.ref 87, .int (-1)] g mi ml (fun v m l => v = nI (ldN (fun k => (fun _ => false) k || soB A wh k) (aBn A)) ∧ RW m0 m ∧ l = ml) := by
  refine rI_of (by decide +kernel) (Nat.le_of_ble_eq_true rfl) ?_
  have hG8 : aG A ≤ 8 := hA.1.2.1
  have hb12 := hA.2.2.2.1.1
  refine X_iconst (v := nI 0) dX12_rightBy_0 (by decide) ?_
  refine X_istore_n dX12_rightBy_1 (by decide) ?_
  refine X_iconst (v := nI 0) dX12_rightBy_2 (by decide) ?_
  refine X_istore_n dX12_rightBy_3 (by decide) ?_
  refine X_iconst (v := nI 0) dX12_rightBy_4 (by decide) ?_
  refine X_istore dX12_rightBy_5 (by decide) ?_
  refine X_L [(4, .int (nI 0)), (3, .int (nI 0)), (2, .int (nI 0)), (0, .ref 87), (1, .int (-1))] ⟨rfl, rfl, rfl, rfl, rfl, trivial⟩ ?_
  refine X_forR (σ := pMI) 7 (fun i y => [(4, .int (nI i)), (3, .int (nI 0)), (2, .int (nI (mxD A i))), (0, .ref 87), (1, .int (-1))]) (fun y => y) (fun y => ml) (fun i y => (∀ a, a ≠ 449 → y a = mi a) ∧ ∀ k, k < i → y 449 k = bI ((fun _ => false) k)) (aBn A) ?_ ?_ (aBn A) 0 mi (by omega) ⟨fun _ _ => rfl, fun k hk => absurd hk (by omega)⟩
  · intro i y hi hI hn
    have hyW := RW_9 hW hI.1
    have hyI := RW_I hA hR hyW
    have hbk := hA.2.2.2.1.2 i hi
    have hmx := mxD_b hA i (by omega)
    refine X_iload dX12_rightBy_7 rfl ?_
    refine X_aload_n dX12_rightBy_9 rfl ?_
    refine X_geti dX12_rightBy_10 fkX12_241 rfl (k_87 hSh) ?_
    rw [hyI.2.2.2.1.1]
    refine X_icmp_geN (a := i) (b := aBn A) 66 dX12_rightBy_13 (by decide) (by omega) (by omega) (fun h_1 => ?_) (fun h_1 => ?_)
    · exact absurd hi (by omega)
    · refine X_iload_n dX12_rightBy_16 rfl ?_
      refine X_aload_n dX12_rightBy_17 rfl ?_
      refine X_getr (a := 142) dX12_rightBy_18 fkX12_55 rfl (k_87 hSh) (r_87_22 hSh) ?_
      refine X_iload dX12_rightBy_21 rfl ?_
      refine X_aaldr (b := 143 + i) i dX12_rightBy_23 (k_142 hSh) rfl (by omega) (o_142 hSh i (by omega)) ?_
      refine X_iconst (v := nI 0) dX12_rightBy_24 (by decide) ?_
      refine X_iald 0 dX12_rightBy_25 (kr_142 hSh i (by omega)) rfl (by omega) ?_
      rw [(hyI.2.2.2.1.2 i hi 0 (by omega))]
      refine X_callSI dX12_rightBy_26 mkX12_291 (c_greater Γ g y ml (nI (mxD A i)) (nI (aB A i 0))) rfl rfl (by decide) (Nat.le_of_ble_eq_true rfl) ?_
      refine X_topi (nI_grJ (a := mxD A i) (b := aB A i 0) (by omega) (by omega)) ?_
      refine X_istore_n dX12_rightBy_29 (by decide) ?_
      refine X_aload_n dX12_rightBy_30 rfl ?_
      refine X_getr (a := 449) dX12_rightBy_31 fkX12_149 rfl (k_87 hSh) (r_87_62 hSh) ?_
      refine X_iload dX12_rightBy_34 rfl ?_
      refine X_iload_n dX12_rightBy_36 rfl ?_
      refine X_iconst (v := -1) dX12_rightBy_37 (by decide) ?_
      refine X_icmp_eq 58 dX12_rightBy_38 (by decide) (fun h_2 => ?_) (fun h_2 => ?_)
      · refine X_iconst (v := nI 0) dX12_rightBy_58 (by decide) ?_
        refine X_zast i dX12_rightBy_59 (k_449 hSh) (by first | exact Or.inl rfl | exact Or.inr rfl | assumption) rfl (by omega) ?_
        refine X_iinc (v := nI (i + 1)) dX12_rightBy_60 rfl (nI_1 _) (by decide) ?_
        refine X_goto 7 dX12_rightBy_63 (by decide) ?_
        refine X_L [(4, .int (nI (i + 1))), (3, .int (nI 0)), (2, .int (nI (max (mxD A i) (aB A i 0)))), (0, .ref 87), (1, .int (-1))] ⟨rfl, rfl, rfl, rfl, rfl, trivial⟩ ?_
        refine hn _ ⟨fun a ha => (up2_row ha).trans (hI.1 a ha), fun k hk => ?_⟩
        by_cases q : k = i
        · subst q; rw [up2_s]; exact (rfl)
        · rw [up2_n q]; exact hI.2 k (by omega)
      · exact absurd rfl h_2
  · intro y hI
    have hyW := RW_9 hW hI.1
    have hyI := RW_I hA hR hyW
    have hmx := mxD_b hA (aBn A) (Nat.le_refl _)
    refine X_iload dX12_rightBy_7 rfl ?_
    refine X_aload_n dX12_rightBy_9 rfl ?_
    refine X_geti dX12_rightBy_10 fkX12_241 rfl (k_87 hSh) ?_
    rw [hyI.2.2.2.1.1]
    refine X_icmp_geN (a := (aBn A)) (b := aBn A) 66 dX12_rightBy_13 (by decide) (by omega) (by omega) (fun h_3 => ?_) (fun h_3 => ?_)
    · refine X_iconst (v := nI 0) dX12_rightBy_66 (by decide) ?_
      refine X_istore dX12_rightBy_67 (by decide) ?_
      refine X_L [(4, .int (nI 0)), (3, .int (nI 0)), (2, .int (nI (mxD A (aBn A)))), (0, .ref 87), (1, .int (-1))] ⟨rfl, rfl, rfl, rfl, rfl, trivial⟩ ?_
      have hySm : ∀ q, q < 230 → y q = mi q := fun q hq => hI.1 q (by omega)
      refine X_forR (σ := pMI) 69 (fun d t => [(4, .int (nI d)), (3, .int (nI 0)), (2, .int (nI (mxD A (aBn A)))), (0, .ref 87), (1, .int (-1))]) (fun t => t) (fun t => ml) (fun d t => RW m0 t ∧ rS t (aP A) (aH A) wh id (aP A).2.2.2.1 ∧ (d = 0 → ∀ b, b < aG A → t 194 b = nI (sqd (aP A) (aH A) wh 0 b) ∧ sqd (aP A) (aH A) wh 0 b < 24) ∧ (0 < d → RDY t (aP A) (sqd (aP A) (aH A) wh (d - 1)) (DDd (aP A) (aH A) wh (d - 1))) ∧ ∀ k, k < aBn A → t 449 k = bI (rgB A wh (fun _ => false) d k)) (mxD A (aBn A) + 1) ?_ ?_ (mxD A (aBn A) + 1) 0 y (by omega) ⟨hyW, rS_b hA.1 hySm hS, fun _ b hb => by rw [hI.1 194 (by omega)]; exact hcm b hb, fun h => absurd h (by omega), fun k hk => by rw [rg_0]; exact hI.2 k hk⟩
      · intro d t hd hJ hn
        obtain ⟨htW, htS, ht0, htD, htR⟩ := hJ
        have key : ∀ u0 : pMI, RW m0 u0 → rS u0 (aP A) (aH A) wh id (aP A).2.2.2.1 → (∀ b, b < aG A → u0 194 b = nI (sqd (aP A) (aH A) wh d b) ∧ sqd (aP A) (aH A) wh d b < 24) → u0 449 = t 449 → XW Γ 6 0 0 mX12_rightBy 86 [(4, .int (nI d)), (3, .int (nI 0)), (2, .int (nI (mxD A (aBn A)))), (0, .ref 87), (1, .int (-1))] [] g u0 ml (fun o g' m l => g' = g ∧ ∃ v, o = .inl (some (.int v)) ∧ v = nI (ldN (fun k => (fun _ => false) k || soB A wh k) (aBn A)) ∧ RW m0 m ∧ l = ml) := by
          intro u0 h0W h0S h0c h0R
          refine X_aload_n dX12_rightBy_86 rfl ?_
          refine X_callVrV dX12_rightBy_87 mkX12_341 (k_87 hSh) (r_run Γ g u0 ml A hA hSh m0 h0W wh id id (sqd (aP A) (aH A) wh d) (aP A).2.2.2.1 ⟨hA.1.2.2.2.1, hA.1.2.2.2.2.1⟩ h0S (okO_id hG8) h0c) rfl rfl (by decide) (Nat.le_of_ble_eq_true rfl) (fun u1 ul hu1 => ?_)
          obtain ⟨huR, huS, huW, huF, hul⟩ := hu1
          rw [hul]
          refine X_iconst (v := nI 0) dX12_rightBy_90 (by decide) ?_
          refine X_istore dX12_rightBy_91 (by decide) ?_
          refine X_L [(5, .int (nI 0)), (4, .int (nI d)), (3, .int (nI 0)), (2, .int (nI (mxD A (aBn A)))), (0, .ref 87), (1, .int (-1))] ⟨rfl, rfl, rfl, rfl, rfl, rfl, trivial⟩ ?_
          refine X_forR (σ := pMI) 93 (fun j z => [(5, .int (nI j)), (4, .int (nI d)), (3, .int (nI 0)), (2, .int (nI (mxD A (aBn A)))), (0, .ref 87), (1, .int (-1))]) (fun z => z) (fun z => ml) (fun j z => (∀ a, a ≠ 449 → z a = u1 a) ∧ ∀ k, k < aBn A → z 449 k = bI (rgB A wh (fun _ => false) (if k < j then d + 1 else d) k)) (aBn A) ?_ ?_ (aBn A) 0 u1 (by omega) ⟨fun _ _ => rfl, fun k hk => by rw [if_neg (by omega), huF 449 (by omega) (by omega) (by omega) (by omega) (by omega), h0R]; exact htR k hk⟩
          · intro j z hj hK hn2
            have hzW := RW_9 huW hK.1
            have hzI := RW_I hA hR hzW
            have hbk := hA.2.2.2.1.2 j hj
            have hzj : z 449 j = bI (rgB A wh (fun _ => false) d j) := by rw [hK.2 j hj, if_neg (by omega)]
            have hz9 : z 194 (aB A j 1) = nI (sqd (aP A) (aH A) wh d (aB A j 1)) := by rw [hK.1 194 (by omega)]; exact (huR.1 _ hbk.2.1).1
            have hs4 : sqd (aP A) (aH A) wh d (aB A j 1) < 24 := sqd_lt hA.1 _ _
            refine X_iload dX12_rightBy_93 rfl ?_
            refine X_aload_n dX12_rightBy_95 rfl ?_
            refine X_geti dX12_rightBy_96 fkX12_241 rfl (k_87 hSh) ?_
            rw [hzI.2.2.2.1.1]
            refine X_icmp_geN (a := j) (b := aBn A) 170 dX12_rightBy_99 (by decide) (by omega) (by omega) (fun h_4 => ?_) (fun h_4 => ?_)
            · exact absurd h_4 (by omega)
            · refine X_aload_n dX12_rightBy_102 rfl ?_
              refine X_getr (a := 449) dX12_rightBy_103 fkX12_149 rfl (k_87 hSh) (r_87_62 hSh) ?_
              refine X_iload dX12_rightBy_106 rfl ?_
              refine X_aload_n dX12_rightBy_108 rfl ?_
              refine X_getr (a := 449) dX12_rightBy_109 fkX12_149 rfl (k_87 hSh) (r_87_62 hSh) ?_
              refine X_iload dX12_rightBy_112 rfl ?_
              refine X_zald j dX12_rightBy_114 (k_449 hSh) rfl (by omega) ?_
              rw [hzj]
              refine X_if_ne 158 dX12_rightBy_115 (by decide) (fun h_5 => ?_) (fun h_5 => ?_)
              · refine X_iconst (v := nI 1) dX12_rightBy_158 (by decide) ?_
                refine X_goto 163 dX12_rightBy_159 (by decide) ?_
                refine X_zast j dX12_rightBy_163 (k_449 hSh) (by first | exact Or.inl rfl | exact Or.inr rfl | assumption) rfl (by omega) ?_
                refine X_iinc (v := nI (j + 1)) dX12_rightBy_164 rfl (nI_1 _) (by decide) ?_
                refine X_goto 93 dX12_rightBy_167 (by decide) ?_
                refine X_L [(5, .int (nI (j + 1))), (4, .int (nI d)), (3, .int (nI 0)), (2, .int (nI (mxD A (aBn A)))), (0, .ref 87), (1, .int (-1))] ⟨rfl, rfl, rfl, rfl, rfl, rfl, trivial⟩ ?_
                refine hn2 _ ⟨fun a ha => (up2_row ha).trans (hK.1 a ha), fun k hk => ?_⟩
                by_cases q : k = j
                · subst q; rw [up2_s, if_pos (by omega)]; first | exact (rg_1 (by assumption)).symm | exact (rg_2 (by assumption) (by assumption)).symm
                · rw [up2_n q, hK.2 k hk]; by_cases q2 : k < j; (rw [if_pos q2, if_pos (by omega)]); rw [if_neg q2, if_neg (by omega)]
              · refine X_aload_n dX12_rightBy_118 rfl ?_
                refine X_getr (a := 142) dX12_rightBy_119 fkX12_55 rfl (k_87 hSh) (r_87_22 hSh) ?_
                refine X_iload dX12_rightBy_122 rfl ?_
                refine X_aaldr (b := 143 + j) j dX12_rightBy_124 (k_142 hSh) rfl (by omega) (o_142 hSh j (by omega)) ?_
                refine X_iconst (v := nI 0) dX12_rightBy_125 (by decide) ?_
                refine X_iald 0 dX12_rightBy_126 (kr_142 hSh j (by omega)) rfl (by omega) ?_
                rw [(hzI.2.2.2.1.2 j hj 0 (by omega))]
                refine X_iload dX12_rightBy_127 rfl ?_
                refine X_icmp_neN (a := aB A j 0) (b := d) 162 dX12_rightBy_129 (by decide) (by omega) (by omega) (fun h_6 => ?_) (fun h_6 => ?_)
                · refine X_iconst (v := nI 0) dX12_rightBy_162 (by decide) ?_
                  refine X_zast j dX12_rightBy_163 (k_449 hSh) (by first | exact Or.inl rfl | exact Or.inr rfl | assumption) rfl (by omega) ?_
                  refine X_iinc (v := nI (j + 1)) dX12_rightBy_164 rfl (nI_1 _) (by decide) ?_
                  refine X_goto 93 dX12_rightBy_167 (by decide) ?_
                  refine X_L [(5, .int (nI (j + 1))), (4, .int (nI d)), (3, .int (nI 0)), (2, .int (nI (mxD A (aBn A)))), (0, .ref 87), (1, .int (-1))] ⟨rfl, rfl, rfl, rfl, rfl, rfl, trivial⟩ ?_
                  refine hn2 _ ⟨fun a ha => (up2_row ha).trans (hK.1 a ha), fun k hk => ?_⟩
                  by_cases q : k = j
                  · subst q; rw [up2_s, if_pos (by omega)]; exact (rg_3 (by first | assumption | exact Classical.not_not.mp (by assumption)) (by omega)).symm
                  · rw [up2_n q, hK.2 k hk]; by_cases q2 : k < j; (rw [if_pos q2, if_pos (by omega)]); rw [if_neg q2, if_neg (by omega)]
                · refine X_aload_n dX12_rightBy_132 rfl ?_
                  refine X_getr (a := 194) dX12_rightBy_133 fkX12_71 rfl (k_87 hSh) (r_87_34 hSh) ?_
                  refine X_aload_n dX12_rightBy_136 rfl ?_
                  refine X_getr (a := 142) dX12_rightBy_137 fkX12_55 rfl (k_87 hSh) (r_87_22 hSh) ?_
                  refine X_iload dX12_rightBy_140 rfl ?_
                  refine X_aaldr (b := 143 + j) j dX12_rightBy_142 (k_142 hSh) rfl (by omega) (o_142 hSh j (by omega)) ?_
                  refine X_iconst (v := nI 1) dX12_rightBy_143 (by decide) ?_
                  refine X_iald 1 dX12_rightBy_144 (kr_142 hSh j (by omega)) rfl (by omega) ?_
                  rw [(hzI.2.2.2.1.2 j hj 1 (by omega))]
                  refine X_iald (aB A j 1) dX12_rightBy_145 (k_194 hSh) rfl (by omega) ?_
                  rw [hz9]
                  refine X_aload_n dX12_rightBy_146 rfl ?_
                  refine X_getr (a := 142) dX12_rightBy_147 fkX12_55 rfl (k_87 hSh) (r_87_22 hSh) ?_
                  refine X_iload dX12_rightBy_150 rfl ?_
                  refine X_aaldr (b := 143 + j) j dX12_rightBy_152 (k_142 hSh) rfl (by omega) (o_142 hSh j (by omega)) ?_
                  refine X_iconst (v := nI 2) dX12_rightBy_153 (by decide) ?_
                  refine X_iald 2 dX12_rightBy_154 (kr_142 hSh j (by omega)) rfl (by omega) ?_
                  rw [(hzI.2.2.2.1.2 j hj 2 (by omega))]
                  refine X_icmp_neN (a := sqd (aP A) (aH A) wh d (aB A j 1)) (b := aB A j 2) 162 dX12_rightBy_155 (by decide) (by omega) (by omega) (fun h_7 => ?_) (fun h_7 => ?_)
                  · refine X_iconst (v := nI 0) dX12_rightBy_162 (by decide) ?_
                    refine X_zast j dX12_rightBy_163 (k_449 hSh) (by first | exact Or.inl rfl | exact Or.inr rfl | assumption) rfl (by omega) ?_
                    refine X_iinc (v := nI (j + 1)) dX12_rightBy_164 rfl (nI_1 _) (by decide) ?_
                    refine X_goto 93 dX12_rightBy_167 (by decide) ?_
                    refine X_L [(5, .int (nI (j + 1))), (4, .int (nI d)), (3, .int (nI 0)), (2, .int (nI (mxD A (aBn A)))), (0, .ref 87), (1, .int (-1))] ⟨rfl, rfl, rfl, rfl, rfl, rfl, trivial⟩ ?_
                    refine hn2 _ ⟨fun a ha => (up2_row ha).trans (hK.1 a ha), fun k hk => ?_⟩
                    by_cases q : k = j
                    · subst q; rw [up2_s, if_pos (by omega)]; exact (rg_3 (by first | assumption | exact Classical.not_not.mp (by assumption)) (by omega)).symm
                    · rw [up2_n q, hK.2 k hk]; by_cases q2 : k < j; (rw [if_pos q2, if_pos (by omega)]); rw [if_neg q2, if_neg (by omega)]
                  · refine X_iconst (v := nI 1) dX12_rightBy_158 (by decide) ?_
                    refine X_goto 163 dX12_rightBy_159 (by decide) ?_
                    refine X_zast j dX12_rightBy_163 (k_449 hSh) (by first | exact Or.inl rfl | exact Or.inr rfl | assumption) rfl (by omega) ?_
                    refine X_iinc (v := nI (j + 1)) dX12_rightBy_164 rfl (nI_1 _) (by decide) ?_
                    refine X_goto 93 dX12_rightBy_167 (by decide) ?_
                    refine X_L [(5, .int (nI (j + 1))), (4, .int (nI d)), (3, .int (nI 0)), (2, .int (nI (mxD A (aBn A)))), (0, .ref 87), (1, .int (-1))] ⟨rfl, rfl, rfl, rfl, rfl, rfl, trivial⟩ ?_
                    refine hn2 _ ⟨fun a ha => (up2_row ha).trans (hK.1 a ha), fun k hk => ?_⟩
                    by_cases q : k = j
                    · subst q; rw [up2_s, if_pos (by omega)]; first | exact (rg_1 (by assumption)).symm | exact (rg_2 (by assumption) (by assumption)).symm
                    · rw [up2_n q, hK.2 k hk]; by_cases q2 : k < j; (rw [if_pos q2, if_pos (by omega)]); rw [if_neg q2, if_neg (by omega)]
          · intro z hK
            have hzW := RW_9 huW hK.1
            have hzI := RW_I hA hR hzW
            refine X_iload dX12_rightBy_93 rfl ?_
            refine X_aload_n dX12_rightBy_95 rfl ?_
            refine X_geti dX12_rightBy_96 fkX12_241 rfl (k_87 hSh) ?_
            rw [hzI.2.2.2.1.1]
            refine X_icmp_geN (a := aBn A) (b := aBn A) 170 dX12_rightBy_99 (by decide) (by omega) (by omega) (fun h_8 => ?_) (fun h_8 => ?_)
            · refine X_iinc (v := nI (d + 1)) dX12_rightBy_170 rfl (nI_1 _) (by decide) ?_
              refine X_goto 69 dX12_rightBy_173 (by decide) ?_
              refine X_L [(4, .int (nI (d + 1))), (3, .int (nI 0)), (2, .int (nI (mxD A (aBn A)))), (0, .ref 87), (1, .int (-1))] ⟨rfl, rfl, rfl, rfl, rfl, trivial⟩ ?_
              have hsm : ∀ q, q < 230 → z q = u1 q := fun q hq => hK.1 q (by omega)
              exact hn z ⟨hzW, rS_b hA.1 hsm huS, fun h => absurd h (by omega), fun _ => RDY_b hA.1 hsm huR, fun k hk => by rw [hK.2 k hk, if_pos hk]⟩
            · exact absurd h_8 (by omega)
        by_cases h00 : d = 0
        · subst h00
          refine X_iload dX12_rightBy_69 rfl ?_
          refine X_iload_n dX12_rightBy_71 rfl ?_
          refine X_icmp_gtN (a := 0) (b := mxD A (aBn A)) 176 dX12_rightBy_72 (by decide) (by omega) (by omega) (fun h_9 => ?_) (fun h_9 => ?_)
          · exact absurd h_9 (by omega)
          · refine X_iload dX12_rightBy_75 rfl ?_
            refine X_if_leN (a := 0) 86 dX12_rightBy_77 (by decide) (by omega) (fun h_10 => ?_) (fun h_10 => ?_)
            · refine X_L [(4, .int (nI 0)), (3, .int (nI 0)), (2, .int (nI (mxD A (aBn A)))), (0, .ref 87), (1, .int (-1))] ⟨rfl, rfl, rfl, rfl, rfl, trivial⟩ ?_
              exact key _ htW htS (ht0 rfl) rfl
            · exact absurd h_10 (by omega)
        · obtain ⟨e, rfl⟩ : ∃ e, d = e + 1 := ⟨d - 1, by omega⟩
          refine X_iload dX12_rightBy_69 rfl ?_
          refine X_iload_n dX12_rightBy_71 rfl ?_
          refine X_icmp_gtN (a := e + 1) (b := mxD A (aBn A)) 176 dX12_rightBy_72 (by decide) (by omega) (by omega) (fun h_11 => ?_) (fun h_11 => ?_)
          · exact absurd h_11 (by omega)
          · refine X_iload dX12_rightBy_75 rfl ?_
            refine X_if_leN (a := e + 1) 86 dX12_rightBy_77 (by decide) (by omega) (fun h_12 => ?_) (fun h_12 => ?_)
            · exact absurd h_12 (by omega)
            · refine X_aload_n dX12_rightBy_80 rfl ?_
              refine X_iload dX12_rightBy_81 rfl ?_
              refine X_callVrV dX12_rightBy_83 mkX12_344 (k_87 hSh) (r_ask Γ g t ml A hA hSh m0 htW wh id _ _ (e + 1) _ htS (htD (by omega))) rfl rfl (by decide) (Nat.le_of_ble_eq_true rfl) (fun a1 al ha1 => ?_)
              obtain ⟨hac, haS, haW, haF, hal⟩ := ha1
              rw [hal]
              have hac := sqd_nx (by omega) hac
              refine X_L [(4, .int (nI (e + 1))), (3, .int (nI 0)), (2, .int (nI (mxD A (aBn A)))), (0, .ref 87), (1, .int (-1))] ⟨rfl, rfl, rfl, rfl, rfl, trivial⟩ ?_
              exact key _ haW haS hac (haF 449 (by omega) (by omega) (by omega) (by omega) (by omega))
      · intro t hJ
        obtain ⟨htW, htS, ht0, htD, htR⟩ := hJ
        have htI := RW_I hA hR htW
        refine X_iload dX12_rightBy_69 rfl ?_
        refine X_iload_n dX12_rightBy_71 rfl ?_
        refine X_icmp_gtN (a := mxD A (aBn A) + 1) (b := mxD A (aBn A)) 176 dX12_rightBy_72 (by decide) (by omega) (by omega) (fun h_13 => ?_) (fun h_13 => ?_)
        · refine X_L [(3, .int (nI 0)), (4, .int (nI (mxD A (aBn A) + 1))), (2, .int (nI (mxD A (aBn A)))), (0, .ref 87), (1, .int (-1))] ⟨rfl, rfl, rfl, rfl, rfl, trivial⟩ ?_
          have htQ : ∀ k, k < aBn A → t 449 k = bI ((fun k => (fun _ => false) k || soB A wh k) k) := fun k hk => by rw [htR k hk, rg_e (by have := mxD_le (A := A) (aBn A) k hk; omega)]
          refine X_forE 176 (fun i => [(3, .int (nI i)), (4, .int (nI (mxD A (aBn A) + 1))), (2, .int (nI (mxD A (aBn A)))), (0, .ref 87), (1, .int (-1))]) (fun k => !(fun k => (fun _ => false) k || soB A wh k) k) (aBn A) (fun i hi h0 => ⟨fun hp => ?_, fun hp hk => ?_⟩) (fun hz => ?_) (aBn A) 0 (by omega) (fun b hb => absurd hb (by omega))
          · skip
            refine X_iload_n dX12_rightBy_176 rfl ?_
            refine X_aload_n dX12_rightBy_177 rfl ?_
            refine X_geti dX12_rightBy_178 fkX12_241 rfl (k_87 hSh) ?_
            rw [htI.2.2.2.1.1]
            refine X_icmp_geN (a := i) (b := aBn A) 199 dX12_rightBy_181 (by decide) (by omega) (by omega) (fun h_14 => ?_) (fun h_14 => ?_)
            · exact absurd h_14 (by omega)
            · refine X_aload_n dX12_rightBy_184 rfl ?_
              refine X_getr (a := 449) dX12_rightBy_185 fkX12_149 rfl (k_87 hSh) (r_87_62 hSh) ?_
              refine X_iload_n dX12_rightBy_188 rfl ?_
              refine X_zald i dX12_rightBy_189 (k_449 hSh) rfl (by omega) ?_
              rw [((htQ i hi).trans (congrArg bI (show (fun k => (fun _ => false) k || soB A wh k) i = false from nbT hp)))]
              refine X_if_eqN (a := 0) 199 dX12_rightBy_190 (by decide) (by omega) (fun h_15 => ?_) (fun h_15 => ?_)
              · refine X_iload_n dX12_rightBy_199 rfl ?_
                exact X_iret dX12_rightBy_200 rfl ⟨rfl, _, rfl, congrArg nI (ld_s (p := (fun k => (fun _ => false) k || soB A wh k)) (fun k hk => nbF (h0 k hk)) (nbT hp) hi).symm, htW, rfl⟩
              · exact absurd h_15 (by omega)
          · skip
            refine X_iload_n dX12_rightBy_176 rfl ?_
            refine X_aload_n dX12_rightBy_177 rfl ?_
            refine X_geti dX12_rightBy_178 fkX12_241 rfl (k_87 hSh) ?_
            rw [htI.2.2.2.1.1]
            refine X_icmp_geN (a := i) (b := aBn A) 199 dX12_rightBy_181 (by decide) (by omega) (by omega) (fun h_16 => ?_) (fun h_16 => ?_)
            · exact absurd h_16 (by omega)
            · refine X_aload_n dX12_rightBy_184 rfl ?_
              refine X_getr (a := 449) dX12_rightBy_185 fkX12_149 rfl (k_87 hSh) (r_87_62 hSh) ?_
              refine X_iload_n dX12_rightBy_188 rfl ?_
              refine X_zald i dX12_rightBy_189 (k_449 hSh) rfl (by omega) ?_
              rw [((htQ i hi).trans (congrArg bI (show (fun k => (fun _ => false) k || soB A wh k) i = true from nbF hp)))]
              refine X_if_eqN (a := 1) 199 dX12_rightBy_190 (by decide) (by omega) (fun h_17 => ?_) (fun h_17 => ?_)
              · exact absurd h_17 (by omega)
              · refine X_iinc (v := nI (i + 1)) dX12_rightBy_193 rfl (nI_1 _) (by decide) ?_
                refine X_goto 176 dX12_rightBy_196 (by decide) ?_
                refine X_L [(3, .int (nI (i + 1))), (4, .int (nI (mxD A (aBn A) + 1))), (2, .int (nI (mxD A (aBn A)))), (0, .ref 87), (1, .int (-1))] ⟨rfl, rfl, rfl, rfl, rfl, trivial⟩ ?_
                exact hk
          · skip
            refine X_iload_n dX12_rightBy_176 rfl ?_
            refine X_aload_n dX12_rightBy_177 rfl ?_
            refine X_geti dX12_rightBy_178 fkX12_241 rfl (k_87 hSh) ?_
            rw [htI.2.2.2.1.1]
            refine X_icmp_geN (a := aBn A) (b := aBn A) 199 dX12_rightBy_181 (by decide) (by omega) (by omega) (fun h_18 => ?_) (fun h_18 => ?_)
            · refine X_iload_n dX12_rightBy_199 rfl ?_
              exact X_iret dX12_rightBy_200 rfl ⟨rfl, _, rfl, congrArg nI (ld_n (p := (fun k => (fun _ => false) k || soB A wh k)) (fun k hk => nbF (hz k hk))).symm, htW, rfl⟩
            · exact absurd h_18 (by omega)
        · exact absurd h_13 (by omega)
    · exact absurd h_3 (by omega)
set_option maxRecDepth 100000 in
set_option maxHeartbeats 4000000 in
theorem r_rightBy_b (Γ : pTG) (g : pGG) (mi : pMI) (ml : pML) (hSh : Sh g) (A : AS) (hA : okAS A) (m0 : pMI) (hR : RI A m0) (hW : RW m0 mi) (wh : Nat → Nat) (hS : rS mi (aP A) (aH A) wh id (aP A).2.2.2.1) (hcm : ∀ b, b < aG A → mi 194 b = nI (sqd (aP A) (aH A) wh 0 b) ∧ sqd (aP A) (aH A) wh 0 b < 24) (b : Nat) (hb : b < 8)  : rI Γ 6 mX12_rightBy [.ref 87, .int (nI b)] g mi ml (fun v m l => v = nI (ldN (fun k => (fun k => !decide (aB A k 1 = b)) k || soB A wh k) (aBn A)) ∧ RW m0 m ∧ l = ml) := by
  refine rI_of (by decide +kernel) (Nat.le_of_ble_eq_true rfl) ?_
  have hG8 : aG A ≤ 8 := hA.1.2.1
  have hb12 := hA.2.2.2.1.1
  refine X_iconst (v := nI 0) dX12_rightBy_0 (by decide) ?_
  refine X_istore_n dX12_rightBy_1 (by decide) ?_
  refine X_iconst (v := nI 0) dX12_rightBy_2 (by decide) ?_
  refine X_istore_n dX12_rightBy_3 (by decide) ?_
  refine X_iconst (v := nI 0) dX12_rightBy_4 (by decide) ?_
  refine X_istore dX12_rightBy_5 (by decide) ?_
  refine X_L [(4, .int (nI 0)), (3, .int (nI 0)), (2, .int (nI 0)), (0, .ref 87), (1, .int (nI b))] ⟨rfl, rfl, rfl, rfl, rfl, trivial⟩ ?_
  refine X_forR (σ := pMI) 7 (fun i y => [(4, .int (nI i)), (3, .int (nI 0)), (2, .int (nI (mxD A i))), (0, .ref 87), (1, .int (nI b))]) (fun y => y) (fun y => ml) (fun i y => (∀ a, a ≠ 449 → y a = mi a) ∧ ∀ k, k < i → y 449 k = bI ((fun k => !decide (aB A k 1 = b)) k)) (aBn A) ?_ ?_ (aBn A) 0 mi (by omega) ⟨fun _ _ => rfl, fun k hk => absurd hk (by omega)⟩
  · intro i y hi hI hn
    have hyW := RW_9 hW hI.1
    have hyI := RW_I hA hR hyW
    have hbk := hA.2.2.2.1.2 i hi
    have hmx := mxD_b hA i (by omega)
    refine X_iload dX12_rightBy_7 rfl ?_
    refine X_aload_n dX12_rightBy_9 rfl ?_
    refine X_geti dX12_rightBy_10 fkX12_241 rfl (k_87 hSh) ?_
    rw [hyI.2.2.2.1.1]
    refine X_icmp_geN (a := i) (b := aBn A) 66 dX12_rightBy_13 (by decide) (by omega) (by omega) (fun h_1 => ?_) (fun h_1 => ?_)
    · exact absurd hi (by omega)
    · refine X_iload_n dX12_rightBy_16 rfl ?_
      refine X_aload_n dX12_rightBy_17 rfl ?_
      refine X_getr (a := 142) dX12_rightBy_18 fkX12_55 rfl (k_87 hSh) (r_87_22 hSh) ?_
      refine X_iload dX12_rightBy_21 rfl ?_
      refine X_aaldr (b := 143 + i) i dX12_rightBy_23 (k_142 hSh) rfl (by omega) (o_142 hSh i (by omega)) ?_
      refine X_iconst (v := nI 0) dX12_rightBy_24 (by decide) ?_
      refine X_iald 0 dX12_rightBy_25 (kr_142 hSh i (by omega)) rfl (by omega) ?_
      rw [(hyI.2.2.2.1.2 i hi 0 (by omega))]
      refine X_callSI dX12_rightBy_26 mkX12_291 (c_greater Γ g y ml (nI (mxD A i)) (nI (aB A i 0))) rfl rfl (by decide) (Nat.le_of_ble_eq_true rfl) ?_
      refine X_topi (nI_grJ (a := mxD A i) (b := aB A i 0) (by omega) (by omega)) ?_
      refine X_istore_n dX12_rightBy_29 (by decide) ?_
      refine X_aload_n dX12_rightBy_30 rfl ?_
      refine X_getr (a := 449) dX12_rightBy_31 fkX12_149 rfl (k_87 hSh) (r_87_62 hSh) ?_
      refine X_iload dX12_rightBy_34 rfl ?_
      refine X_iload_n dX12_rightBy_36 rfl ?_
      refine X_iconst (v := -1) dX12_rightBy_37 (by decide) ?_
      refine X_icmp_eq 58 dX12_rightBy_38 (by decide) (fun h_2 => ?_) (fun h_2 => ?_)
      · exact absurd h_2 (nI_m1 (by omega))
      · refine X_aload_n dX12_rightBy_41 rfl ?_
        refine X_getr (a := 142) dX12_rightBy_42 fkX12_55 rfl (k_87 hSh) (r_87_22 hSh) ?_
        refine X_iload dX12_rightBy_45 rfl ?_
        refine X_aaldr (b := 143 + i) i dX12_rightBy_47 (k_142 hSh) rfl (by omega) (o_142 hSh i (by omega)) ?_
        refine X_iconst (v := nI 1) dX12_rightBy_48 (by decide) ?_
        refine X_iald 1 dX12_rightBy_49 (kr_142 hSh i (by omega)) rfl (by omega) ?_
        rw [(hyI.2.2.2.1.2 i hi 1 (by omega))]
        refine X_iload_n dX12_rightBy_50 rfl ?_
        refine X_icmp_eqN (a := aB A i 1) (b := b) 58 dX12_rightBy_51 (by decide) (by omega) (by omega) (fun h_3 => ?_) (fun h_3 => ?_)
        · refine X_iconst (v := nI 0) dX12_rightBy_58 (by decide) ?_
          refine X_zast i dX12_rightBy_59 (k_449 hSh) (by first | exact Or.inl rfl | exact Or.inr rfl | assumption) rfl (by omega) ?_
          refine X_iinc (v := nI (i + 1)) dX12_rightBy_60 rfl (nI_1 _) (by decide) ?_
          refine X_goto 7 dX12_rightBy_63 (by decide) ?_
          refine X_L [(4, .int (nI (i + 1))), (3, .int (nI 0)), (2, .int (nI (max (mxD A i) (aB A i 0)))), (0, .ref 87), (1, .int (nI b))] ⟨rfl, rfl, rfl, rfl, rfl, trivial⟩ ?_
          refine hn _ ⟨fun a ha => (up2_row ha).trans (hI.1 a ha), fun k hk => ?_⟩
          by_cases q : k = i
          · subst q; rw [up2_s]; exact (by show _ = bI (!decide (aB A k 1 = b)); rw [(decide_eq_true (by assumption) : decide (aB A k 1 = b) = true)]; rfl)
          · rw [up2_n q]; exact hI.2 k (by omega)
        · refine X_iconst (v := nI 1) dX12_rightBy_54 (by decide) ?_
          refine X_goto 59 dX12_rightBy_55 (by decide) ?_
          refine X_zast i dX12_rightBy_59 (k_449 hSh) (by first | exact Or.inl rfl | exact Or.inr rfl | assumption) rfl (by omega) ?_
          refine X_iinc (v := nI (i + 1)) dX12_rightBy_60 rfl (nI_1 _) (by decide) ?_
          refine X_goto 7 dX12_rightBy_63 (by decide) ?_
          refine X_L [(4, .int (nI (i + 1))), (3, .int (nI 0)), (2, .int (nI (max (mxD A i) (aB A i 0)))), (0, .ref 87), (1, .int (nI b))] ⟨rfl, rfl, rfl, rfl, rfl, trivial⟩ ?_
          refine hn _ ⟨fun a ha => (up2_row ha).trans (hI.1 a ha), fun k hk => ?_⟩
          by_cases q : k = i
          · subst q; rw [up2_s]; exact (by show _ = bI (!decide (aB A k 1 = b)); rw [(decide_eq_false (by assumption) : decide (aB A k 1 = b) = false)]; rfl)
          · rw [up2_n q]; exact hI.2 k (by omega)
  · intro y hI
    have hyW := RW_9 hW hI.1
    have hyI := RW_I hA hR hyW
    have hmx := mxD_b hA (aBn A) (Nat.le_refl _)
    refine X_iload dX12_rightBy_7 rfl ?_
    refine X_aload_n dX12_rightBy_9 rfl ?_
    refine X_geti dX12_rightBy_10 fkX12_241 rfl (k_87 hSh) ?_
    rw [hyI.2.2.2.1.1]
    refine X_icmp_geN (a := (aBn A)) (b := aBn A) 66 dX12_rightBy_13 (by decide) (by omega) (by omega) (fun h_4 => ?_) (fun h_4 => ?_)
    · refine X_iconst (v := nI 0) dX12_rightBy_66 (by decide) ?_
      refine X_istore dX12_rightBy_67 (by decide) ?_
      refine X_L [(4, .int (nI 0)), (3, .int (nI 0)), (2, .int (nI (mxD A (aBn A)))), (0, .ref 87), (1, .int (nI b))] ⟨rfl, rfl, rfl, rfl, rfl, trivial⟩ ?_
      have hySm : ∀ q, q < 230 → y q = mi q := fun q hq => hI.1 q (by omega)
      refine X_forR (σ := pMI) 69 (fun d t => [(4, .int (nI d)), (3, .int (nI 0)), (2, .int (nI (mxD A (aBn A)))), (0, .ref 87), (1, .int (nI b))]) (fun t => t) (fun t => ml) (fun d t => RW m0 t ∧ rS t (aP A) (aH A) wh id (aP A).2.2.2.1 ∧ (d = 0 → ∀ b, b < aG A → t 194 b = nI (sqd (aP A) (aH A) wh 0 b) ∧ sqd (aP A) (aH A) wh 0 b < 24) ∧ (0 < d → RDY t (aP A) (sqd (aP A) (aH A) wh (d - 1)) (DDd (aP A) (aH A) wh (d - 1))) ∧ ∀ k, k < aBn A → t 449 k = bI (rgB A wh (fun k => !decide (aB A k 1 = b)) d k)) (mxD A (aBn A) + 1) ?_ ?_ (mxD A (aBn A) + 1) 0 y (by omega) ⟨hyW, rS_b hA.1 hySm hS, fun _ b hb => by rw [hI.1 194 (by omega)]; exact hcm b hb, fun h => absurd h (by omega), fun k hk => by rw [rg_0]; exact hI.2 k hk⟩
      · intro d t hd hJ hn
        obtain ⟨htW, htS, ht0, htD, htR⟩ := hJ
        have key : ∀ u0 : pMI, RW m0 u0 → rS u0 (aP A) (aH A) wh id (aP A).2.2.2.1 → (∀ b, b < aG A → u0 194 b = nI (sqd (aP A) (aH A) wh d b) ∧ sqd (aP A) (aH A) wh d b < 24) → u0 449 = t 449 → XW Γ 6 0 0 mX12_rightBy 86 [(4, .int (nI d)), (3, .int (nI 0)), (2, .int (nI (mxD A (aBn A)))), (0, .ref 87), (1, .int (nI b))] [] g u0 ml (fun o g' m l => g' = g ∧ ∃ v, o = .inl (some (.int v)) ∧ v = nI (ldN (fun k => (fun k => !decide (aB A k 1 = b)) k || soB A wh k) (aBn A)) ∧ RW m0 m ∧ l = ml) := by
          intro u0 h0W h0S h0c h0R
          refine X_aload_n dX12_rightBy_86 rfl ?_
          refine X_callVrV dX12_rightBy_87 mkX12_341 (k_87 hSh) (r_run Γ g u0 ml A hA hSh m0 h0W wh id id (sqd (aP A) (aH A) wh d) (aP A).2.2.2.1 ⟨hA.1.2.2.2.1, hA.1.2.2.2.2.1⟩ h0S (okO_id hG8) h0c) rfl rfl (by decide) (Nat.le_of_ble_eq_true rfl) (fun u1 ul hu1 => ?_)
          obtain ⟨huR, huS, huW, huF, hul⟩ := hu1
          rw [hul]
          refine X_iconst (v := nI 0) dX12_rightBy_90 (by decide) ?_
          refine X_istore dX12_rightBy_91 (by decide) ?_
          refine X_L [(5, .int (nI 0)), (4, .int (nI d)), (3, .int (nI 0)), (2, .int (nI (mxD A (aBn A)))), (0, .ref 87), (1, .int (nI b))] ⟨rfl, rfl, rfl, rfl, rfl, rfl, trivial⟩ ?_
          refine X_forR (σ := pMI) 93 (fun j z => [(5, .int (nI j)), (4, .int (nI d)), (3, .int (nI 0)), (2, .int (nI (mxD A (aBn A)))), (0, .ref 87), (1, .int (nI b))]) (fun z => z) (fun z => ml) (fun j z => (∀ a, a ≠ 449 → z a = u1 a) ∧ ∀ k, k < aBn A → z 449 k = bI (rgB A wh (fun k => !decide (aB A k 1 = b)) (if k < j then d + 1 else d) k)) (aBn A) ?_ ?_ (aBn A) 0 u1 (by omega) ⟨fun _ _ => rfl, fun k hk => by rw [if_neg (by omega), huF 449 (by omega) (by omega) (by omega) (by omega) (by omega), h0R]; exact htR k hk⟩
          · intro j z hj hK hn2
            have hzW := RW_9 huW hK.1
            have hzI := RW_I hA hR hzW
            have hbk := hA.2.2.2.1.2 j hj
            have hzj : z 449 j = bI (rgB A wh (fun k => !decide (aB A k 1 = b)) d j) := by rw [hK.2 j hj, if_neg (by omega)]
            have hz9 : z 194 (aB A j 1) = nI (sqd (aP A) (aH A) wh d (aB A j 1)) := by rw [hK.1 194 (by omega)]; exact (huR.1 _ hbk.2.1).1
            have hs4 : sqd (aP A) (aH A) wh d (aB A j 1) < 24 := sqd_lt hA.1 _ _
            refine X_iload dX12_rightBy_93 rfl ?_
            refine X_aload_n dX12_rightBy_95 rfl ?_
            refine X_geti dX12_rightBy_96 fkX12_241 rfl (k_87 hSh) ?_
            rw [hzI.2.2.2.1.1]
            refine X_icmp_geN (a := j) (b := aBn A) 170 dX12_rightBy_99 (by decide) (by omega) (by omega) (fun h_5 => ?_) (fun h_5 => ?_)
            · exact absurd h_5 (by omega)
            · refine X_aload_n dX12_rightBy_102 rfl ?_
              refine X_getr (a := 449) dX12_rightBy_103 fkX12_149 rfl (k_87 hSh) (r_87_62 hSh) ?_
              refine X_iload dX12_rightBy_106 rfl ?_
              refine X_aload_n dX12_rightBy_108 rfl ?_
              refine X_getr (a := 449) dX12_rightBy_109 fkX12_149 rfl (k_87 hSh) (r_87_62 hSh) ?_
              refine X_iload dX12_rightBy_112 rfl ?_
              refine X_zald j dX12_rightBy_114 (k_449 hSh) rfl (by omega) ?_
              rw [hzj]
              refine X_if_ne 158 dX12_rightBy_115 (by decide) (fun h_6 => ?_) (fun h_6 => ?_)
              · refine X_iconst (v := nI 1) dX12_rightBy_158 (by decide) ?_
                refine X_goto 163 dX12_rightBy_159 (by decide) ?_
                refine X_zast j dX12_rightBy_163 (k_449 hSh) (by first | exact Or.inl rfl | exact Or.inr rfl | assumption) rfl (by omega) ?_
                refine X_iinc (v := nI (j + 1)) dX12_rightBy_164 rfl (nI_1 _) (by decide) ?_
                refine X_goto 93 dX12_rightBy_167 (by decide) ?_
                refine X_L [(5, .int (nI (j + 1))), (4, .int (nI d)), (3, .int (nI 0)), (2, .int (nI (mxD A (aBn A)))), (0, .ref 87), (1, .int (nI b))] ⟨rfl, rfl, rfl, rfl, rfl, rfl, trivial⟩ ?_
                refine hn2 _ ⟨fun a ha => (up2_row ha).trans (hK.1 a ha), fun k hk => ?_⟩
                by_cases q : k = j
                · subst q; rw [up2_s, if_pos (by omega)]; first | exact (rg_1 (by assumption)).symm | exact (rg_2 (by assumption) (by assumption)).symm
                · rw [up2_n q, hK.2 k hk]; by_cases q2 : k < j; (rw [if_pos q2, if_pos (by omega)]); rw [if_neg q2, if_neg (by omega)]
              · refine X_aload_n dX12_rightBy_118 rfl ?_
                refine X_getr (a := 142) dX12_rightBy_119 fkX12_55 rfl (k_87 hSh) (r_87_22 hSh) ?_
                refine X_iload dX12_rightBy_122 rfl ?_
                refine X_aaldr (b := 143 + j) j dX12_rightBy_124 (k_142 hSh) rfl (by omega) (o_142 hSh j (by omega)) ?_
                refine X_iconst (v := nI 0) dX12_rightBy_125 (by decide) ?_
                refine X_iald 0 dX12_rightBy_126 (kr_142 hSh j (by omega)) rfl (by omega) ?_
                rw [(hzI.2.2.2.1.2 j hj 0 (by omega))]
                refine X_iload dX12_rightBy_127 rfl ?_
                refine X_icmp_neN (a := aB A j 0) (b := d) 162 dX12_rightBy_129 (by decide) (by omega) (by omega) (fun h_7 => ?_) (fun h_7 => ?_)
                · refine X_iconst (v := nI 0) dX12_rightBy_162 (by decide) ?_
                  refine X_zast j dX12_rightBy_163 (k_449 hSh) (by first | exact Or.inl rfl | exact Or.inr rfl | assumption) rfl (by omega) ?_
                  refine X_iinc (v := nI (j + 1)) dX12_rightBy_164 rfl (nI_1 _) (by decide) ?_
                  refine X_goto 93 dX12_rightBy_167 (by decide) ?_
                  refine X_L [(5, .int (nI (j + 1))), (4, .int (nI d)), (3, .int (nI 0)), (2, .int (nI (mxD A (aBn A)))), (0, .ref 87), (1, .int (nI b))] ⟨rfl, rfl, rfl, rfl, rfl, rfl, trivial⟩ ?_
                  refine hn2 _ ⟨fun a ha => (up2_row ha).trans (hK.1 a ha), fun k hk => ?_⟩
                  by_cases q : k = j
                  · subst q; rw [up2_s, if_pos (by omega)]; exact (rg_3 (by first | assumption | exact Classical.not_not.mp (by assumption)) (by omega)).symm
                  · rw [up2_n q, hK.2 k hk]; by_cases q2 : k < j; (rw [if_pos q2, if_pos (by omega)]); rw [if_neg q2, if_neg (by omega)]
                · refine X_aload_n dX12_rightBy_132 rfl ?_
                  refine X_getr (a := 194) dX12_rightBy_133 fkX12_71 rfl (k_87 hSh) (r_87_34 hSh) ?_
                  refine X_aload_n dX12_rightBy_136 rfl ?_
                  refine X_getr (a := 142) dX12_rightBy_137 fkX12_55 rfl (k_87 hSh) (r_87_22 hSh) ?_
                  refine X_iload dX12_rightBy_140 rfl ?_
                  refine X_aaldr (b := 143 + j) j dX12_rightBy_142 (k_142 hSh) rfl (by omega) (o_142 hSh j (by omega)) ?_
                  refine X_iconst (v := nI 1) dX12_rightBy_143 (by decide) ?_
                  refine X_iald 1 dX12_rightBy_144 (kr_142 hSh j (by omega)) rfl (by omega) ?_
                  rw [(hzI.2.2.2.1.2 j hj 1 (by omega))]
                  refine X_iald (aB A j 1) dX12_rightBy_145 (k_194 hSh) rfl (by omega) ?_
                  rw [hz9]
                  refine X_aload_n dX12_rightBy_146 rfl ?_
                  refine X_getr (a := 142) dX12_rightBy_147 fkX12_55 rfl (k_87 hSh) (r_87_22 hSh) ?_
                  refine X_iload dX12_rightBy_150 rfl ?_
                  refine X_aaldr (b := 143 + j) j dX12_rightBy_152 (k_142 hSh) rfl (by omega) (o_142 hSh j (by omega)) ?_
                  refine X_iconst (v := nI 2) dX12_rightBy_153 (by decide) ?_
                  refine X_iald 2 dX12_rightBy_154 (kr_142 hSh j (by omega)) rfl (by omega) ?_
                  rw [(hzI.2.2.2.1.2 j hj 2 (by omega))]
                  refine X_icmp_neN (a := sqd (aP A) (aH A) wh d (aB A j 1)) (b := aB A j 2) 162 dX12_rightBy_155 (by decide) (by omega) (by omega) (fun h_8 => ?_) (fun h_8 => ?_)
                  · refine X_iconst (v := nI 0) dX12_rightBy_162 (by decide) ?_
                    refine X_zast j dX12_rightBy_163 (k_449 hSh) (by first | exact Or.inl rfl | exact Or.inr rfl | assumption) rfl (by omega) ?_
                    refine X_iinc (v := nI (j + 1)) dX12_rightBy_164 rfl (nI_1 _) (by decide) ?_
                    refine X_goto 93 dX12_rightBy_167 (by decide) ?_
                    refine X_L [(5, .int (nI (j + 1))), (4, .int (nI d)), (3, .int (nI 0)), (2, .int (nI (mxD A (aBn A)))), (0, .ref 87), (1, .int (nI b))] ⟨rfl, rfl, rfl, rfl, rfl, rfl, trivial⟩ ?_
                    refine hn2 _ ⟨fun a ha => (up2_row ha).trans (hK.1 a ha), fun k hk => ?_⟩
                    by_cases q : k = j
                    · subst q; rw [up2_s, if_pos (by omega)]; exact (rg_3 (by first | assumption | exact Classical.not_not.mp (by assumption)) (by omega)).symm
                    · rw [up2_n q, hK.2 k hk]; by_cases q2 : k < j; (rw [if_pos q2, if_pos (by omega)]); rw [if_neg q2, if_neg (by omega)]
                  · refine X_iconst (v := nI 1) dX12_rightBy_158 (by decide) ?_
                    refine X_goto 163 dX12_rightBy_159 (by decide) ?_
                    refine X_zast j dX12_rightBy_163 (k_449 hSh) (by first | exact Or.inl rfl | exact Or.inr rfl | assumption) rfl (by omega) ?_
                    refine X_iinc (v := nI (j + 1)) dX12_rightBy_164 rfl (nI_1 _) (by decide) ?_
                    refine X_goto 93 dX12_rightBy_167 (by decide) ?_
                    refine X_L [(5, .int (nI (j + 1))), (4, .int (nI d)), (3, .int (nI 0)), (2, .int (nI (mxD A (aBn A)))), (0, .ref 87), (1, .int (nI b))] ⟨rfl, rfl, rfl, rfl, rfl, rfl, trivial⟩ ?_
                    refine hn2 _ ⟨fun a ha => (up2_row ha).trans (hK.1 a ha), fun k hk => ?_⟩
                    by_cases q : k = j
                    · subst q; rw [up2_s, if_pos (by omega)]; first | exact (rg_1 (by assumption)).symm | exact (rg_2 (by assumption) (by assumption)).symm
                    · rw [up2_n q, hK.2 k hk]; by_cases q2 : k < j; (rw [if_pos q2, if_pos (by omega)]); rw [if_neg q2, if_neg (by omega)]
          · intro z hK
            have hzW := RW_9 huW hK.1
            have hzI := RW_I hA hR hzW
            refine X_iload dX12_rightBy_93 rfl ?_
            refine X_aload_n dX12_rightBy_95 rfl ?_
            refine X_geti dX12_rightBy_96 fkX12_241 rfl (k_87 hSh) ?_
            rw [hzI.2.2.2.1.1]
            refine X_icmp_geN (a := aBn A) (b := aBn A) 170 dX12_rightBy_99 (by decide) (by omega) (by omega) (fun h_9 => ?_) (fun h_9 => ?_)
            · refine X_iinc (v := nI (d + 1)) dX12_rightBy_170 rfl (nI_1 _) (by decide) ?_
              refine X_goto 69 dX12_rightBy_173 (by decide) ?_
              refine X_L [(4, .int (nI (d + 1))), (3, .int (nI 0)), (2, .int (nI (mxD A (aBn A)))), (0, .ref 87), (1, .int (nI b))] ⟨rfl, rfl, rfl, rfl, rfl, trivial⟩ ?_
              have hsm : ∀ q, q < 230 → z q = u1 q := fun q hq => hK.1 q (by omega)
              exact hn z ⟨hzW, rS_b hA.1 hsm huS, fun h => absurd h (by omega), fun _ => RDY_b hA.1 hsm huR, fun k hk => by rw [hK.2 k hk, if_pos hk]⟩
            · exact absurd h_9 (by omega)
        by_cases h00 : d = 0
        · subst h00
          refine X_iload dX12_rightBy_69 rfl ?_
          refine X_iload_n dX12_rightBy_71 rfl ?_
          refine X_icmp_gtN (a := 0) (b := mxD A (aBn A)) 176 dX12_rightBy_72 (by decide) (by omega) (by omega) (fun h_10 => ?_) (fun h_10 => ?_)
          · exact absurd h_10 (by omega)
          · refine X_iload dX12_rightBy_75 rfl ?_
            refine X_if_leN (a := 0) 86 dX12_rightBy_77 (by decide) (by omega) (fun h_11 => ?_) (fun h_11 => ?_)
            · refine X_L [(4, .int (nI 0)), (3, .int (nI 0)), (2, .int (nI (mxD A (aBn A)))), (0, .ref 87), (1, .int (nI b))] ⟨rfl, rfl, rfl, rfl, rfl, trivial⟩ ?_
              exact key _ htW htS (ht0 rfl) rfl
            · exact absurd h_11 (by omega)
        · obtain ⟨e, rfl⟩ : ∃ e, d = e + 1 := ⟨d - 1, by omega⟩
          refine X_iload dX12_rightBy_69 rfl ?_
          refine X_iload_n dX12_rightBy_71 rfl ?_
          refine X_icmp_gtN (a := e + 1) (b := mxD A (aBn A)) 176 dX12_rightBy_72 (by decide) (by omega) (by omega) (fun h_12 => ?_) (fun h_12 => ?_)
          · exact absurd h_12 (by omega)
          · refine X_iload dX12_rightBy_75 rfl ?_
            refine X_if_leN (a := e + 1) 86 dX12_rightBy_77 (by decide) (by omega) (fun h_13 => ?_) (fun h_13 => ?_)
            · exact absurd h_13 (by omega)
            · refine X_aload_n dX12_rightBy_80 rfl ?_
              refine X_iload dX12_rightBy_81 rfl ?_
              refine X_callVrV dX12_rightBy_83 mkX12_344 (k_87 hSh) (r_ask Γ g t ml A hA hSh m0 htW wh id _ _ (e + 1) _ htS (htD (by omega))) rfl rfl (by decide) (Nat.le_of_ble_eq_true rfl) (fun a1 al ha1 => ?_)
              obtain ⟨hac, haS, haW, haF, hal⟩ := ha1
              rw [hal]
              have hac := sqd_nx (by omega) hac
              refine X_L [(4, .int (nI (e + 1))), (3, .int (nI 0)), (2, .int (nI (mxD A (aBn A)))), (0, .ref 87), (1, .int (nI b))] ⟨rfl, rfl, rfl, rfl, rfl, trivial⟩ ?_
              exact key _ haW haS hac (haF 449 (by omega) (by omega) (by omega) (by omega) (by omega))
      · intro t hJ
        obtain ⟨htW, htS, ht0, htD, htR⟩ := hJ
        have htI := RW_I hA hR htW
        refine X_iload dX12_rightBy_69 rfl ?_
        refine X_iload_n dX12_rightBy_71 rfl ?_
        refine X_icmp_gtN (a := mxD A (aBn A) + 1) (b := mxD A (aBn A)) 176 dX12_rightBy_72 (by decide) (by omega) (by omega) (fun h_14 => ?_) (fun h_14 => ?_)
        · refine X_L [(3, .int (nI 0)), (4, .int (nI (mxD A (aBn A) + 1))), (2, .int (nI (mxD A (aBn A)))), (0, .ref 87), (1, .int (nI b))] ⟨rfl, rfl, rfl, rfl, rfl, trivial⟩ ?_
          have htQ : ∀ k, k < aBn A → t 449 k = bI ((fun k => (fun k => !decide (aB A k 1 = b)) k || soB A wh k) k) := fun k hk => by rw [htR k hk, rg_e (by have := mxD_le (A := A) (aBn A) k hk; omega)]
          refine X_forE 176 (fun i => [(3, .int (nI i)), (4, .int (nI (mxD A (aBn A) + 1))), (2, .int (nI (mxD A (aBn A)))), (0, .ref 87), (1, .int (nI b))]) (fun k => !(fun k => (fun k => !decide (aB A k 1 = b)) k || soB A wh k) k) (aBn A) (fun i hi h0 => ⟨fun hp => ?_, fun hp hk => ?_⟩) (fun hz => ?_) (aBn A) 0 (by omega) (fun b hb => absurd hb (by omega))
          · skip
            refine X_iload_n dX12_rightBy_176 rfl ?_
            refine X_aload_n dX12_rightBy_177 rfl ?_
            refine X_geti dX12_rightBy_178 fkX12_241 rfl (k_87 hSh) ?_
            rw [htI.2.2.2.1.1]
            refine X_icmp_geN (a := i) (b := aBn A) 199 dX12_rightBy_181 (by decide) (by omega) (by omega) (fun h_15 => ?_) (fun h_15 => ?_)
            · exact absurd h_15 (by omega)
            · refine X_aload_n dX12_rightBy_184 rfl ?_
              refine X_getr (a := 449) dX12_rightBy_185 fkX12_149 rfl (k_87 hSh) (r_87_62 hSh) ?_
              refine X_iload_n dX12_rightBy_188 rfl ?_
              refine X_zald i dX12_rightBy_189 (k_449 hSh) rfl (by omega) ?_
              rw [((htQ i hi).trans (congrArg bI (show (fun k => (fun k => !decide (aB A k 1 = b)) k || soB A wh k) i = false from nbT hp)))]
              refine X_if_eqN (a := 0) 199 dX12_rightBy_190 (by decide) (by omega) (fun h_16 => ?_) (fun h_16 => ?_)
              · refine X_iload_n dX12_rightBy_199 rfl ?_
                exact X_iret dX12_rightBy_200 rfl ⟨rfl, _, rfl, congrArg nI (ld_s (p := (fun k => (fun k => !decide (aB A k 1 = b)) k || soB A wh k)) (fun k hk => nbF (h0 k hk)) (nbT hp) hi).symm, htW, rfl⟩
              · exact absurd h_16 (by omega)
          · skip
            refine X_iload_n dX12_rightBy_176 rfl ?_
            refine X_aload_n dX12_rightBy_177 rfl ?_
            refine X_geti dX12_rightBy_178 fkX12_241 rfl (k_87 hSh) ?_
            rw [htI.2.2.2.1.1]
            refine X_icmp_geN (a := i) (b := aBn A) 199 dX12_rightBy_181 (by decide) (by omega) (by omega) (fun h_17 => ?_) (fun h_17 => ?_)
            · exact absurd h_17 (by omega)
            · refine X_aload_n dX12_rightBy_184 rfl ?_
              refine X_getr (a := 449) dX12_rightBy_185 fkX12_149 rfl (k_87 hSh) (r_87_62 hSh) ?_
              refine X_iload_n dX12_rightBy_188 rfl ?_
              refine X_zald i dX12_rightBy_189 (k_449 hSh) rfl (by omega) ?_
              rw [((htQ i hi).trans (congrArg bI (show (fun k => (fun k => !decide (aB A k 1 = b)) k || soB A wh k) i = true from nbF hp)))]
              refine X_if_eqN (a := 1) 199 dX12_rightBy_190 (by decide) (by omega) (fun h_18 => ?_) (fun h_18 => ?_)
              · exact absurd h_18 (by omega)
              · refine X_iinc (v := nI (i + 1)) dX12_rightBy_193 rfl (nI_1 _) (by decide) ?_
                refine X_goto 176 dX12_rightBy_196 (by decide) ?_
                refine X_L [(3, .int (nI (i + 1))), (4, .int (nI (mxD A (aBn A) + 1))), (2, .int (nI (mxD A (aBn A)))), (0, .ref 87), (1, .int (nI b))] ⟨rfl, rfl, rfl, rfl, rfl, trivial⟩ ?_
                exact hk
          · skip
            refine X_iload_n dX12_rightBy_176 rfl ?_
            refine X_aload_n dX12_rightBy_177 rfl ?_
            refine X_geti dX12_rightBy_178 fkX12_241 rfl (k_87 hSh) ?_
            rw [htI.2.2.2.1.1]
            refine X_icmp_geN (a := aBn A) (b := aBn A) 199 dX12_rightBy_181 (by decide) (by omega) (by omega) (fun h_19 => ?_) (fun h_19 => ?_)
            · refine X_iload_n dX12_rightBy_199 rfl ?_
              exact X_iret dX12_rightBy_200 rfl ⟨rfl, _, rfl, congrArg nI (ld_n (p := (fun k => (fun k => !decide (aB A k 1 = b)) k || soB A wh k)) (fun k hk => nbF (hz k hk))).symm, htW, rfl⟩
            · exact absurd h_19 (by omega)
        · exact absurd h_14 (by omega)
    · exact absurd h_4 (by omega)
set_option maxRecDepth 100000 in
set_option maxHeartbeats 4000000 in
theorem r_right (Γ : pTG) (g : pGG) (mi : pMI) (ml : pML) (A : AS) (hA : okAS A) (hSh : Sh g) (hR : RI A mi)  : CT Γ 60 0 0 mX12_right [.ref 87] g mi ml (RQ A (.inl (nI (ldN (soB A id) (aBn A)))) cdN g mi ml) := by
  refine CT_of (by decide +kernel) (Nat.le_of_ble_eq_true rfl) ?_
  have hP := hA.1
  have hG8 : aG A ≤ 8 := hP.2.1
  have hC8 : (aP A).1 ≤ 8 := hP.1
  refine X_aload_n dX12_right_0 rfl ?_
  refine X_iconst (v := nI 0) dX12_right_1 (by decide) ?_
  refine X_puti dX12_right_2 fkX12_158 rfl rfl (k_87 hSh) ?_
  refine X_aload_n dX12_right_5 rfl ?_
  refine X_callVrV dX12_right_6 mkX12_347 (k_87 hSh) (r_beg Γ g (up2 mi 87 0 (nI 0)) ml A hA hSh mi hR RW_0) rfl rfl (by decide) (Nat.le_of_ble_eq_true rfl) (fun b1 bl hb1 => ?_)
  obtain ⟨hbS, hbc, hbW, hbB, hbl⟩ := hb1
  rw [hbl]
  refine X_aload_n dX12_right_9 rfl ?_
  refine X_iconst (v := -1) dX12_right_10 (by decide) ?_
  refine X_callVrI dX12_right_11 mkX12_397 (k_87 hSh) (r_rightBy_n Γ g b1 ml hSh A hA mi hR hbW id hbS hbc) rfl rfl (by decide) (Nat.le_of_ble_eq_true rfl) (fun v2 m2 l2 hm2 => ?_)
  obtain ⟨hv2, hw2, hl2⟩ := hm2
  rw [hl2]
  exact X_iret dX12_right_14 rfl ⟨rfl, rfl, RW_I hA hR hw2, hw2.2.1, _, rfl, hv2, hw2.2.2⟩
theorem m_right (A : AS) (hA : okAS A)  : MOK mX11_right mX12_right cdN [] A := by
  exact ⟨.inl (nI (ldN (soB A id) (aBn A))), A, hA, fun j h => (by cases h), fun Γ g m l hC => k_right Γ g m l A hA hC , fun Γ g m l hSh hR => r_right Γ g m l A hA hSh hR ⟩
set_option maxRecDepth 100000 in
set_option maxHeartbeats 4000000 in
theorem r_fits (Γ : pTG) (g : pGG) (mi : pMI) (ml : pML) (A : AS) (hA : okAS A) (hSh : Sh g) (hR : RI A mi) (b : Nat) (hb : b < aG A) : CT Γ 60 0 0 mX12_fits [.ref 87, .int (nI b)] g mi ml (RQ A (.inl (mkN (fun c => !anB (fun k => decide (aB A k 1 = b) && !soB A (ud id b c) k) (aBn A)) (aG A))) cd0 g mi ml) := by
  refine CT_of (by decide +kernel) (Nat.le_of_ble_eq_true rfl) ?_
  have hP := hA.1
  have hG8 : aG A ≤ 8 := hP.2.1
  have hC8 : (aP A).1 ≤ 8 := hP.1
  refine X_aload_n dX12_fits_0 rfl ?_
  refine X_iconst (v := nI 0) dX12_fits_1 (by decide) ?_
  refine X_puti dX12_fits_2 fkX12_158 rfl rfl (k_87 hSh) ?_
  refine X_aload_n dX12_fits_5 rfl ?_
  refine X_aload_n dX12_fits_6 rfl ?_
  refine X_iload_n dX12_fits_7 rfl ?_
  refine X_callVI dX12_fits_8 mkX12_285 (k_87 hSh) (c_isGuest Γ g (up2 mi 87 0 (nI 0)) ml hSh (nI b)) rfl rfl (by decide) (Nat.le_of_ble_eq_true rfl) ?_
  refine X_topi (show bI (decide (nI 0 ≤ nI b) && decide (nI b ≤ (up2 mi 87 0 (nI 0)) 91 1 - nI 1)) = nI 1 from congrArg bI (show (decide (nI 0 ≤ nI b) && decide (nI b ≤ (up2 mi 87 0 (nI 0)) 91 1 - nI 1)) = true from by rw [(show (up2 mi 87 0 (nI 0)) 91 1 = nI (aG A) from ((congrFun (up2_row (by omega)) _).trans hR.1.2.1))]; exact (gd_ref hG8).mpr ⟨b, hb, rfl⟩)) ?_
  refine X_if_neN (a := 1) 18 dX12_fits_11 (by decide) (by first | omega | (have q9 := ld_le (p := (fun k => (fun k => !decide (aB A k 1 = b)) k || soB A (ud id b i) k)) (n := aBn A); omega)) (fun h_1 => ?_) (fun h_1 => ?_)
  · refine X_iconst (v := nI 0) dX12_fits_18 (by decide) ?_
    refine X_iconst (v := nI 1) dX12_fits_19 (by decide) ?_
    refine X_iconst (v := nI 0) dX12_fits_20 (by decide) ?_
    refine X_callVI dX12_fits_21 mkX12_228 (k_87 hSh) (c_bad0 Γ g (up2 mi 87 0 (nI 0)) ml hSh 1 0 up2_s) rfl rfl (by decide) (Nat.le_of_ble_eq_true rfl) ?_
    refine X_if_eqN (a := 0) 29 dX12_fits_24 (by decide) (by first | omega | (have q9 := ld_le (p := (fun k => (fun k => !decide (aB A k 1 = b)) k || soB A (ud id b i) k)) (n := aBn A); omega)) (fun h_2 => ?_) (fun h_2 => ?_)
    · refine X_iconst (v := nI 0) dX12_fits_29 (by decide) ?_
      refine X_istore_n dX12_fits_30 (by decide) ?_
      refine X_iconst (v := nI 0) dX12_fits_31 (by decide) ?_
      refine X_istore_n dX12_fits_32 (by decide) ?_
      refine X_L [(3, .int (nI 0)), (2, .int (nI 0)), (0, .ref 87), (1, .int (nI b))] ⟨rfl, rfl, rfl, rfl, trivial⟩ ?_
      refine X_L [(3, .int (nI (0))), (2, .int (mkN (fun c => !anB (fun k => decide (aB A k 1 = b) && !soB A (ud id b c) k) (aBn A)) (0))), (0, .ref 87), (1, .int (nI b))] ⟨rfl, rfl, rfl, rfl, trivial⟩ ?_
      refine X_forR (σ := pMI) 33 (fun i y => [(3, .int (nI (i))), (2, .int (mkN (fun c => !anB (fun k => decide (aB A k 1 = b) && !soB A (ud id b c) k) (aBn A)) (i))), (0, .ref 87), (1, .int (nI b))]) (fun y => y) (fun y => ml) (fun i y => RW mi y) (aG A) ?_ ?_ (aG A) 0 (up2 mi 87 0 (nI 0)) (by omega) RW_0
      · intro i y hi hyW hn
        have hyI := RW_I hA hR hyW
        have hb12 := hA.2.2.2.1.1
        refine X_iload_n dX12_fits_33 rfl ?_
        refine X_aload_n dX12_fits_34 rfl ?_
        refine X_getr (a := 91) dX12_fits_35 fkX12_23 rfl (k_87 hSh) (r_87_12 hSh) ?_
        refine X_iconst (v := nI 1) dX12_fits_38 (by decide) ?_
        refine X_iald 1 dX12_fits_39 (k_91 hSh) rfl (by first | omega | (have q9 := ld_le (p := (fun k => (fun k => !decide (aB A k 1 = b)) k || soB A (ud id b i) k)) (n := aBn A); omega)) ?_
        rw [hyI.1.2.1]
        refine X_icmp_geN (a := i) (b := aG A) 82 dX12_fits_40 (by decide) (by first | omega | (have q9 := ld_le (p := (fun k => (fun k => !decide (aB A k 1 = b)) k || soB A (ud id b i) k)) (n := aBn A); omega)) (by first | omega | (have q9 := ld_le (p := (fun k => (fun k => !decide (aB A k 1 = b)) k || soB A (ud id b i) k)) (n := aBn A); omega)) (fun h_3 => ?_) (fun h_3 => ?_)
        · exact absurd h_3 (by omega)
        · refine X_aload_n dX12_fits_43 rfl ?_
          refine X_callVrV dX12_fits_44 mkX12_347 (k_87 hSh) (r_beg Γ g y ml A hA hSh mi hR hyW) rfl rfl (by decide) (Nat.le_of_ble_eq_true rfl) (fun b1 bl hb1 => ?_)
          obtain ⟨hbS, hbc, hbW, hbB, hbl⟩ := hb1
          rw [hbl]
          refine X_aload_n dX12_fits_47 rfl ?_
          refine X_getr (a := 229) dX12_fits_48 fkX12_128 rfl (k_87 hSh) (r_87_54 hSh) ?_
          refine X_iload_n dX12_fits_51 rfl ?_
          refine X_iload_n dX12_fits_52 rfl ?_
          refine X_iast b dX12_fits_53 (k_229 hSh) rfl (by first | omega | (have q9 := ld_le (p := (fun k => (fun k => !decide (aB A k 1 = b)) k || soB A (ud id b i) k)) (n := aBn A); omega)) ?_
          refine X_iload_n dX12_fits_54 rfl ?_
          refine X_aload_n dX12_fits_55 rfl ?_
          refine X_iload_n dX12_fits_56 rfl ?_
          refine X_callVrI dX12_fits_57 mkX12_397 (k_87 hSh) (r_rightBy_b Γ g (up2 b1 229 b (nI i)) ml hSh A hA mi hR (RW_u hbW (by unfold rsR; omega)) (ud id b i) (rS_wh hA.1 (by omega) hbS) (fun d hd => by rw [up2_row (by omega)]; exact hbc d hd) b (by omega)) rfl rfl (by decide) (Nat.le_of_ble_eq_true rfl) (fun v2 m2 l2 hm2 => ?_)
          obtain ⟨hv2, hw2, hl2⟩ := hm2
          rw [hl2, hv2]
          refine X_aload_n dX12_fits_60 rfl ?_
          refine X_geti dX12_fits_61 fkX12_241 rfl (k_87 hSh) ?_
          rw [(RW_I hA hR hw2).2.2.2.1.1]
          refine X_icmp_neN (a := ldN (fun k => (fun k => !decide (aB A k 1 = b)) k || soB A (ud id b i) k) (aBn A)) (b := aBn A) 73 dX12_fits_64 (by decide) (by first | omega | (have q9 := ld_le (p := (fun k => (fun k => !decide (aB A k 1 = b)) k || soB A (ud id b i) k)) (n := aBn A); omega)) (by first | omega | (have q9 := ld_le (p := (fun k => (fun k => !decide (aB A k 1 = b)) k || soB A (ud id b i) k)) (n := aBn A); omega)) (fun h_4 => ?_) (fun h_4 => ?_)
          · refine X_iconst (v := nI 0) dX12_fits_73 (by decide) ?_
            refine X_ior dX12_fits_74 ?_
            refine X_istore_n dX12_fits_75 (by decide) ?_
            refine X_iinc (v := nI (i + 1)) dX12_fits_76 rfl (nI_1 _) (by decide) ?_
            refine X_goto 33 dX12_fits_79 (by decide) ?_
            refine X_L [(3, .int (nI (i + 1))), (2, .int ((mkN (fun c => !anB (fun k => decide (aB A k 1 = b) && !soB A (ud id b c) k) (aBn A)) i) ||| (nI 0))), (0, .ref 87), (1, .int (nI b))] ⟨rfl, rfl, rfl, rfl, trivial⟩ ?_
            refine X_L [(3, .int (nI (i + 1))), (2, .int (mkN (fun c => !anB (fun k => decide (aB A k 1 = b) && !soB A (ud id b c) k) (aBn A)) (i + 1))), (0, .ref 87), (1, .int (nI b))] ⟨rfl, by rw [show mkN (fun c => !anB (fun k => decide (aB A k 1 = b) && !soB A (ud id b c) k) (aBn A)) (i + 1) = (mkN (fun c => !anB (fun k => decide (aB A k 1 = b) && !soB A (ud id b c) k) (aBn A)) i) ||| (nI 0) from (if_neg (fun q => absurd (fit_iff.mpr q) (by assumption))).trans (i_or0 _).symm]; rfl, rfl, rfl, trivial⟩ ?_
            exact hn m2 hw2
          · refine X_iconst (v := nI 1) dX12_fits_67 (by decide) ?_
            refine X_iload_n dX12_fits_68 rfl ?_
            refine X_ishl dX12_fits_69 ?_
            refine X_goto 74 dX12_fits_70 (by decide) ?_
            refine X_ior dX12_fits_74 ?_
            refine X_istore_n dX12_fits_75 (by decide) ?_
            refine X_iinc (v := nI (i + 1)) dX12_fits_76 rfl (nI_1 _) (by decide) ?_
            refine X_goto 33 dX12_fits_79 (by decide) ?_
            refine X_L [(3, .int (nI (i + 1))), (2, .int ((mkN (fun c => !anB (fun k => decide (aB A k 1 = b) && !soB A (ud id b c) k) (aBn A)) i) ||| ((nI 1) <<< ((nI i) &&& 31)))), (0, .ref 87), (1, .int (nI b))] ⟨rfl, rfl, rfl, rfl, trivial⟩ ?_
            refine X_L [(3, .int (nI (i + 1))), (2, .int (mkN (fun c => !anB (fun k => decide (aB A k 1 = b) && !soB A (ud id b c) k) (aBn A)) (i + 1))), (0, .ref 87), (1, .int (nI b))] ⟨rfl, by rw [show mkN (fun c => !anB (fun k => decide (aB A k 1 = b) && !soB A (ud id b c) k) (aBn A)) (i + 1) = (mkN (fun c => !anB (fun k => decide (aB A k 1 = b) && !soB A (ud id b c) k) (aBn A)) i) ||| ((nI 1) <<< ((nI i) &&& 31)) from if_pos (fit_iff.mp (by assumption))]; rfl, rfl, rfl, trivial⟩ ?_
            exact hn m2 hw2
      · intro y hyW
        have hyI := RW_I hA hR hyW
        refine X_iload_n dX12_fits_33 rfl ?_
        refine X_aload_n dX12_fits_34 rfl ?_
        refine X_getr (a := 91) dX12_fits_35 fkX12_23 rfl (k_87 hSh) (r_87_12 hSh) ?_
        refine X_iconst (v := nI 1) dX12_fits_38 (by decide) ?_
        refine X_iald 1 dX12_fits_39 (k_91 hSh) rfl (by first | omega | (have q9 := ld_le (p := (fun k => (fun k => !decide (aB A k 1 = b)) k || soB A (ud id b i) k)) (n := aBn A); omega)) ?_
        rw [hyI.1.2.1]
        refine X_icmp_geN (a := aG A) (b := aG A) 82 dX12_fits_40 (by decide) (by first | omega | (have q9 := ld_le (p := (fun k => (fun k => !decide (aB A k 1 = b)) k || soB A (ud id b i) k)) (n := aBn A); omega)) (by first | omega | (have q9 := ld_le (p := (fun k => (fun k => !decide (aB A k 1 = b)) k || soB A (ud id b i) k)) (n := aBn A); omega)) (fun h_5 => ?_) (fun h_5 => ?_)
        · refine X_iload_n dX12_fits_82 rfl ?_
          exact X_iret dX12_fits_83 rfl ⟨rfl, rfl, RW_I hA hR hyW, hyW.2.1, _, rfl, rfl, hyW.2.2⟩
        · exact absurd h_5 (by omega)
    · exact absurd h_2 (by omega)
  · exact absurd h_1 (by omega)
theorem m_fits (A : AS) (hA : okAS A) (v : Int32) : MOK mX11_fits mX12_fits cd0 [.int v] A := by
  by_cases hg0 : ∃ b, b < aG A ∧ v = nI b
  · obtain ⟨b, hb, rfl⟩ := hg0
    exact ⟨.inl (mkN (fun c => !anB (fun k => decide (aB A k 1 = b) && !soB A (ud id b c) k) (aBn A)) (aG A)), A, hA, fun j h => (by cases h), fun Γ g m l hC => k_fits Γ g m l A hA hC b hb, fun Γ g m l hSh hR => r_fits Γ g m l A hA hSh hR b hb⟩
  · exact ⟨.inr 0, rfA A 0, ok_rf hA, fun j h => by cases h; decide, fun Γ g m l hC => k_fits_f0 Γ g m l A hA hC v hg0, fun Γ g m l hSh hR => r_fits_f0 Γ g m l A hA hSh hR v hg0⟩

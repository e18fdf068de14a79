/-! ===== a whole day of the reference ===== -/
/-- rows of a table set to n -/
def clr (t : List (Nat × Int32)) (n : Nat) (m : pMI) : pMI := fun a j => if j < n then (match t.lookup a with | some v => v | none => m a j) else m a j
theorem clr_0 (t : List (Nat × Int32)) (m : pMI) : clr t 0 m = m := by funext a j; simp [clr]
def clT1 : List (Nat × Int32) := [(195, -1), (196, -1), (198, -1), (199, nI 0), (200, nI 0), (201, nI 0), (202, nI 0), (203, nI 0), (228, nI 0)]
def clT2 : List (Nat × Int32) := [(204, -1), (206, nI 0), (207, nI 0), (208, nI 0)]
def ups (t : List (Nat × Int32)) (i : Nat) (m : pMI) : pMI := match t with
  | [] => m
  | (a, v) :: t => ups t i (up2 m a i v)
theorem ups_off {i a j : Nat} (hj : j ≠ i) : ∀ (t : List (Nat × Int32)) (m : pMI), ups t i m a j = m a j
  | [], m => rfl
  | (b, v) :: t, m => by
    show ups t i (up2 m b i v) a j = m a j
    rw [ups_off hj t]
    simp [up2, hj]
theorem ups_no {i a : Nat} : ∀ (t : List (Nat × Int32)) (m : pMI), t.lookup a = none → ups t i m a i = m a i
  | [], m, _ => rfl
  | (b, v) :: t, m, h => by
    show ups t i (up2 m b i v) a i = m a i
    rw [List.lookup_cons] at h
    by_cases e : a = b
    · subst e; simp at h
    · have e2 : (a == b) = false := by simpa using e
      rw [e2] at h
      rw [ups_no t _ h]
      simp [up2, e]
theorem ups_on {i a : Nat} {v : Int32} : ∀ (t : List (Nat × Int32)) (m : pMI), (t.map (·.1)).Nodup → t.lookup a = some v → ups t i m a i = v
  | [], m, _, h => by cases h
  | (b, w) :: t, m, hd, h => by
    show ups t i (up2 m b i w) a i = v
    rw [List.map_cons, List.nodup_cons] at hd
    rw [List.lookup_cons] at h
    by_cases e : a = b
    · subst e
      simp only [beq_self_eq_true] at h
      cases h
      rw [ups_no t]
      · exact up2_s
      · exact List.lookup_eq_none_iff.mpr (fun q hq => by
          simp only [beq_eq_false_iff_ne, bne_iff_ne, ne_eq]
          intro z
          exact hd.1 (List.mem_map.mpr ⟨q, hq, z.symm⟩))
    · have e2 : (a == b) = false := by simpa using e
      rw [e2] at h
      exact ups_on t _ hd.2 h
theorem clr_s {t : List (Nat × Int32)} (hd : (t.map (·.1)).Nodup) (n : Nat) (m : pMI) : ups t n (clr t n m) = clr t (n + 1) m := by
  funext a j
  by_cases e : j = n
  · subst e
    cases h : t.lookup a with
    | none => rw [ups_no t _ h]; simp [clr, h]
    | some v => rw [ups_on t _ hd h]; simp [clr, h]
  · rw [ups_off e]
    unfold clr
    by_cases h : j < n
    · rw [if_pos h, if_pos (by omega)]
    · rw [if_neg h, if_neg (by omega)]
/-- a day's beginning -/
def clM (m : pMI) : pMI := clr [(199, nI 0), (200, nI 0), (201, nI 0), (202, nI 0), (203, nI 0), (206, nI 0), (207, nI 0), (208, nI 0)] 8 m
def dy0 (m : pMI) : DS := (clM m, fun _ _ => none, fun _ => false)
theorem clr_D (m : pMI) : clr clT2 8 (clr clT1 8 m) = wD (dy0 m) := by
  funext a j
  unfold wD dy0 clM clr
  by_cases hj : j < 8
  · simp only [hj, if_true, and_true]
    by_cases h1 : a = 195
    · subst h1; rfl
    by_cases h2 : a = 196
    · subst h2; rfl
    by_cases h3 : a = 198
    · subst h3; rfl
    by_cases h4 : a = 204
    · subst h4; rfl
    by_cases h5 : a = 228
    · subst h5; rfl
    have ho : oRow a = false := by simp [oRow, h1, h2, h3, h4]
    simp only [ho, h5, if_false, Bool.false_eq_true]
    simp only [clT1, clT2, List.lookup_cons, List.lookup_nil]
    by_cases e1 : a = 199
    · subst e1; rfl
    by_cases e2 : a = 200
    · subst e2; rfl
    by_cases e3 : a = 201
    · subst e3; rfl
    by_cases e4 : a = 202
    · subst e4; rfl
    by_cases e5 : a = 203
    · subst e5; rfl
    by_cases e6 : a = 206
    · subst e6; rfl
    by_cases e7 : a = 207
    · subst e7; rfl
    by_cases e8 : a = 208
    · subst e8; rfl
    have q (k : Nat) (h : ¬ a = k) : (a == k) = false := by simpa using h
    rw [q _ h1, q _ h2, q _ h3, q _ h4, q _ h5, q _ e1, q _ e2, q _ e3, q _ e4, q _ e5, q _ e6, q _ e7, q _ e8]
  · simp only [hj, if_false, and_false]
theorem frm_0 (m : pMI) : frm m (dy0 m).1 := fun i hi => by
  funext j
  show clM m i j = m i j
  unfold clM clr
  split
  · simp only [List.lookup_cons, List.lookup_nil]
    have h (k : Nat) (hk : 199 ≤ k) (hk2 : k ≤ 228) : (i == k) = false := by simp; omega
    rw [h 199 (by omega) (by omega), h 200 (by omega) (by omega), h 201 (by omega) (by omega), h 202 (by omega) (by omega), h 203 (by omega) (by omega), h 206 (by omega) (by omega), h 207 (by omega) (by omega), h 208 (by omega) (by omega)]
  · rfl
theorem okD_0 (nG : Nat) (m : pMI) : okD nG (dy0 m) := ⟨fun _ _ h => (by cases h), fun _ _ h => (by cases h), fun _ _ h => (by cases h), fun _ _ h => (by cases h)⟩
theorem hf_ok {m : pMI} {nC nG : Nat} {F T cm rk ord : Nat → Nat} {ob : Int32} {go h : Nat} {s : DS} (hD : dayP m nC nG F T cm rk ord ob go) (hh : h < 24) (ho : okD nG s) (hf : frm m s.1) : okD nG (hfD m nC nG F T cm rk ord ob go h s) ∧ frm m (hfD m nC nG F T cm rk ord ob go h s).1 := by
  have hC : nC ≤ 8 := hD.1.2.2.1
  have hG : nG ≤ 8 := hD.1.2.2.2.1
  unfold hfD
  have a1 := lpS_inv (fun _ s => okD nG s ∧ frm m s.1) (f := lvD T h) (e := nG) (fun i s _ h => ⟨lv_ok h.1, frm_lv h.2⟩) nG 0 s (by omega) ⟨ho, hf⟩
  have a2 : okD nG (hgD F h ob nC go (lpS (lvD T h) 0 nG s)) ∧ frm m (hgD F h ob nC go (lpS (lvD T h) 0 nG s)).1 := ⟨hg_ok a1.1 (fun b hb => (hD.1.2.2.2.2 b hb).2.2.1) hh, frm_hg a1.2⟩
  have a3 := lpS_inv (fun _ s => okD nG s ∧ frm m s.1) (f := arD (fun g c => wM m F T g h c) cm T ord nC h) (e := nG) (fun i s hi h => ⟨ar_ok h.1 hC hh (hD.2.2.2.2.2.2 i hi), frm_ar h.2⟩) nG 0 _ (by omega) a2
  have a4 := wt_ok (W := fun g c => wM m F T g h c) (rk := rk) (h := h) hC nG (fun _ => false) _ a3.1 a3.2
  have a5 := lpS_inv (fun _ s => okD nG s ∧ frm m s.1) (f := mkD h) (e := nG) (fun i s _ h => ⟨mk_ok h.1, frm_mk h.2⟩) nG 0 ((fun z : DS => (up2 z.1 209 h (nI 0), z.2)) (wtD (fun g c => wM m F T g h c) rk nC nG h nG (fun _ => false) (lpS (arD (fun g c => wM m F T g h c) cm T ord nC h) 0 nG (hgD F h ob nC go (lpS (lvD T h) 0 nG s))))) (by omega) ⟨a4.1, frm_up a4.2 (by omega)⟩
  exact lpS_inv (fun _ s => okD nG s ∧ frm m s.1) (f := lyD m F h) (e := nC) (fun i s hi h => ⟨ly_ok h.1, frm_ly h.2 (by omega)⟩) nC 0 _ (by omega) a5
def dayD (m : pMI) (nC nG : Nat) (F T cm rk ord : Nat → Nat) (ob : Int32) (go : Nat) : DS := lpS (hfD m nC nG F T cm rk ord ob go) 0 24 (dy0 m)
theorem day_ok {m : pMI} {nC nG : Nat} {F T cm rk ord : Nat → Nat} {ob : Int32} {go : Nat} (hD : dayP m nC nG F T cm rk ord ob go) : okD nG (dayD m nC nG F T cm rk ord ob go) ∧ frm m (dayD m nC nG F T cm rk ord ob go).1 :=
  lpS_inv (fun _ s => okD nG s ∧ frm m s.1) (e := 24) (fun i s hi h => hf_ok hD hi h.1 h.2) 24 0 _ (by omega) ⟨okD_0 nG m, frm_0 m⟩
set_option maxRecDepth 100000 in
set_option maxHeartbeats 4000000 in
theorem c_runs (Γ : pTG) (g : pGG) (mi : pMI) (ml : pML) (hSh : Sh g) (nC nG : Nat) (F T cm rk ord : Nat → Nat) (ob : Int32) (go : Nat) (hD : dayP mi nC nG F T cm rk ord ob go) : cV Γ 5 mX12_runs [.ref 87] g mi ml (wD (dayD mi nC nG F T cm rk ord ob go)) ml := by
  refine cV_of (by decide +kernel) (Nat.le_of_ble_eq_true rfl) ?_
  refine X_iconst (v := nI 0) dX12_runs_0 (by decide) ?_
  refine X_istore_n dX12_runs_1 (by decide) ?_
  refine X_L [(1, .int (nI 0)), (0, .ref 87)] ⟨rfl, rfl, trivial⟩ ?_
  refine X_for2 (σ := pMI) 2 (fun i x => [(1, .int (nI i)), (0, .ref 87)]) (fun x => x) (fun x => ml) (fun i x => ups clT1 i x) (fun i x => x = clr clT1 i mi) 8 ?_ 8 0 mi (by omega) (clr_0 _ _).symm ?_
  · intro i x hi hI
    refine ⟨by rw [hI]; exact clr_s (by decide) _ _, fun hn => ?_⟩
    refine X_iload_n dX12_runs_2 rfl ?_
    refine X_bipush (v := nI 8) dX12_runs_3 (by decide) ?_
    refine X_icmp_geN (a := i) (b := 8) 77 dX12_runs_5 (by decide) (by omega) (by omega) (fun h_1 => ?_) (fun h_1 => ?_)
    · exact absurd hi (by omega)
    · refine X_aload_n dX12_runs_8 rfl ?_
      refine X_getr (a := 195) dX12_runs_9 fkX12_74 rfl (k_87 hSh) (r_87_35 hSh) ?_
      refine X_iload_n dX12_runs_12 rfl ?_
      refine X_iconst (v := -1) dX12_runs_13 (by decide) ?_
      refine X_iast i dX12_runs_14 (k_195 hSh) rfl (by omega) ?_
      refine X_aload_n dX12_runs_15 rfl ?_
      refine X_getr (a := 196) dX12_runs_16 fkX12_77 rfl (k_87 hSh) (r_87_36 hSh) ?_
      refine X_iload_n dX12_runs_19 rfl ?_
      refine X_iconst (v := -1) dX12_runs_20 (by decide) ?_
      refine X_iast i dX12_runs_21 (k_196 hSh) rfl (by omega) ?_
      refine X_aload_n dX12_runs_22 rfl ?_
      refine X_getr (a := 198) dX12_runs_23 fkX12_83 rfl (k_87 hSh) (r_87_38 hSh) ?_
      refine X_iload_n dX12_runs_26 rfl ?_
      refine X_iconst (v := -1) dX12_runs_27 (by decide) ?_
      refine X_iast i dX12_runs_28 (k_198 hSh) rfl (by omega) ?_
      refine X_aload_n dX12_runs_29 rfl ?_
      refine X_getr (a := 199) dX12_runs_30 fkX12_86 rfl (k_87 hSh) (r_87_39 hSh) ?_
      refine X_iload_n dX12_runs_33 rfl ?_
      refine X_iconst (v := nI 0) dX12_runs_34 (by decide) ?_
      refine X_iast i dX12_runs_35 (k_199 hSh) rfl (by omega) ?_
      refine X_aload_n dX12_runs_36 rfl ?_
      refine X_getr (a := 200) dX12_runs_37 fkX12_89 rfl (k_87 hSh) (r_87_40 hSh) ?_
      refine X_iload_n dX12_runs_40 rfl ?_
      refine X_iconst (v := nI 0) dX12_runs_41 (by decide) ?_
      refine X_iast i dX12_runs_42 (k_200 hSh) rfl (by omega) ?_
      refine X_aload_n dX12_runs_43 rfl ?_
      refine X_getr (a := 201) dX12_runs_44 fkX12_92 rfl (k_87 hSh) (r_87_41 hSh) ?_
      refine X_iload_n dX12_runs_47 rfl ?_
      refine X_iconst (v := nI 0) dX12_runs_48 (by decide) ?_
      refine X_iast i dX12_runs_49 (k_201 hSh) rfl (by omega) ?_
      refine X_aload_n dX12_runs_50 rfl ?_
      refine X_getr (a := 202) dX12_runs_51 fkX12_95 rfl (k_87 hSh) (r_87_42 hSh) ?_
      refine X_iload_n dX12_runs_54 rfl ?_
      refine X_iconst (v := nI 0) dX12_runs_55 (by decide) ?_
      refine X_iast i dX12_runs_56 (k_202 hSh) rfl (by omega) ?_
      refine X_aload_n dX12_runs_57 rfl ?_
      refine X_getr (a := 203) dX12_runs_58 fkX12_98 rfl (k_87 hSh) (r_87_43 hSh) ?_
      refine X_iload_n dX12_runs_61 rfl ?_
      refine X_iconst (v := nI 0) dX12_runs_62 (by decide) ?_
      refine X_iast i dX12_runs_63 (k_203 hSh) rfl (by omega) ?_
      refine X_aload_n dX12_runs_64 rfl ?_
      refine X_getr (a := 228) dX12_runs_65 fkX12_125 rfl (k_87 hSh) (r_87_52 hSh) ?_
      refine X_iload_n dX12_runs_68 rfl ?_
      refine X_iconst (v := nI 0) dX12_runs_69 (by decide) ?_
      refine X_zast i dX12_runs_70 (k_228 hSh) (by first | exact Or.inl rfl | exact Or.inr rfl | assumption) rfl (by omega) ?_
      refine X_iinc (v := nI (i + 1)) dX12_runs_71 rfl (nI_1 _) (by decide) ?_
      refine X_goto 2 dX12_runs_74 (by decide) ?_
      refine X_L [(1, .int (nI (i + 1))), (0, .ref 87)] ⟨rfl, rfl, trivial⟩ ?_
      exact hn
  · intro m1 h1
    refine X_iload_n dX12_runs_2 rfl ?_
    refine X_bipush (v := nI 8) dX12_runs_3 (by decide) ?_
    refine X_icmp_geN (a := 8) (b := 8) 77 dX12_runs_5 (by decide) (by omega) (by omega) (fun h_2 => ?_) (fun h_2 => ?_)
    · refine X_iconst (v := nI 0) dX12_runs_77 (by decide) ?_
      refine X_istore_n dX12_runs_78 (by decide) ?_
      refine X_L [(1, .int (nI 0)), (0, .ref 87)] ⟨rfl, rfl, trivial⟩ ?_
      refine X_for2 (σ := pMI) 79 (fun i x => [(1, .int (nI i)), (0, .ref 87)]) (fun x => x) (fun x => ml) (fun i x => ups clT2 i x) (fun i x => x = clr clT2 i m1) 8 ?_ 8 0 m1 (by omega) (clr_0 _ _).symm ?_
      · intro i x hi hI
        refine ⟨by rw [hI]; exact clr_s (by decide) _ _, fun hn => ?_⟩
        refine X_iload_n dX12_runs_79 rfl ?_
        refine X_bipush (v := nI 8) dX12_runs_80 (by decide) ?_
        refine X_icmp_geN (a := i) (b := 8) 119 dX12_runs_82 (by decide) (by omega) (by omega) (fun h_3 => ?_) (fun h_3 => ?_)
        · exact absurd hi (by omega)
        · refine X_aload_n dX12_runs_85 rfl ?_
          refine X_getr (a := 204) dX12_runs_86 fkX12_101 rfl (k_87 hSh) (r_87_44 hSh) ?_
          refine X_iload_n dX12_runs_89 rfl ?_
          refine X_iconst (v := -1) dX12_runs_90 (by decide) ?_
          refine X_iast i dX12_runs_91 (k_204 hSh) rfl (by omega) ?_
          refine X_aload_n dX12_runs_92 rfl ?_
          refine X_getr (a := 206) dX12_runs_93 fkX12_107 rfl (k_87 hSh) (r_87_46 hSh) ?_
          refine X_iload_n dX12_runs_96 rfl ?_
          refine X_iconst (v := nI 0) dX12_runs_97 (by decide) ?_
          refine X_iast i dX12_runs_98 (k_206 hSh) rfl (by omega) ?_
          refine X_aload_n dX12_runs_99 rfl ?_
          refine X_getr (a := 207) dX12_runs_100 fkX12_110 rfl (k_87 hSh) (r_87_47 hSh) ?_
          refine X_iload_n dX12_runs_103 rfl ?_
          refine X_iconst (v := nI 0) dX12_runs_104 (by decide) ?_
          refine X_iast i dX12_runs_105 (k_207 hSh) rfl (by omega) ?_
          refine X_aload_n dX12_runs_106 rfl ?_
          refine X_getr (a := 208) dX12_runs_107 fkX12_113 rfl (k_87 hSh) (r_87_48 hSh) ?_
          refine X_iload_n dX12_runs_110 rfl ?_
          refine X_iconst (v := nI 0) dX12_runs_111 (by decide) ?_
          refine X_iast i dX12_runs_112 (k_208 hSh) rfl (by omega) ?_
          refine X_iinc (v := nI (i + 1)) dX12_runs_113 rfl (nI_1 _) (by decide) ?_
          refine X_goto 79 dX12_runs_116 (by decide) ?_
          refine X_L [(1, .int (nI (i + 1))), (0, .ref 87)] ⟨rfl, rfl, trivial⟩ ?_
          exact hn
      · intro m2 h2
        refine X_iload_n dX12_runs_79 rfl ?_
        refine X_bipush (v := nI 8) dX12_runs_80 (by decide) ?_
        refine X_icmp_geN (a := 8) (b := 8) 119 dX12_runs_82 (by decide) (by omega) (by omega) (fun h_4 => ?_) (fun h_4 => ?_)
        · refine X_iconst (v := nI 0) dX12_runs_119 (by decide) ?_
          refine X_istore_n dX12_runs_120 (by decide) ?_
          refine X_L [(1, .int (nI 0)), (0, .ref 87)] ⟨rfl, rfl, trivial⟩ ?_
          refine X_mi (show m2 = wD (dy0 mi) by rw [h2, h1, clr_D]) ?_
          refine X_for2 (σ := DS) 121 (fun i x => [(1, .int (nI i)), (0, .ref 87)]) (fun x => (wD x)) (fun x => ml) (fun i x => hfD mi nC nG F T cm rk ord ob go i x) (fun i x => okD nG x ∧ frm mi x.1 ∧ x = lpS (hfD mi nC nG F T cm rk ord ob go) 0 i (dy0 mi)) 24 ?_ 24 0 (dy0 mi) (by omega) ⟨okD_0 _ _, frm_0 _, rfl⟩ ?_
          · intro i x hi hI
            refine ⟨⟨(hf_ok hD hi hI.1 hI.2.1).1, (hf_ok hD hi hI.1 hI.2.1).2, by rw [lpS_snoc, Nat.zero_add, ← hI.2.2]⟩, fun hn => ?_⟩
            refine X_iload_n dX12_runs_121 rfl ?_
            refine X_bipush (v := nI 24) dX12_runs_122 (by decide) ?_
            refine X_icmp_geN (a := i) (b := 24) 138 dX12_runs_124 (by decide) (by omega) (by omega) (fun h_5 => ?_) (fun h_5 => ?_)
            · exact absurd hi (by omega)
            · refine X_aload_n dX12_runs_127 rfl ?_
              refine X_iload_n dX12_runs_128 rfl ?_
              refine X_callVV dX12_runs_129 mkX12_332 (k_87 hSh) (c_half Γ g ml hSh mi x nC nG F T cm rk ord ob go i hD hI.1 hI.2.1 (by omega)) rfl rfl (by decide) (Nat.le_of_ble_eq_true rfl) ?_
              refine X_iinc (v := nI (i + 1)) dX12_runs_132 rfl (nI_1 _) (by decide) ?_
              refine X_goto 121 dX12_runs_135 (by decide) ?_
              refine X_L [(1, .int (nI (i + 1))), (0, .ref 87)] ⟨rfl, rfl, trivial⟩ ?_
              exact hn
          · intro s3 h3
            refine X_iload_n dX12_runs_121 rfl ?_
            refine X_bipush (v := nI 24) dX12_runs_122 (by decide) ?_
            refine X_icmp_geN (a := 24) (b := 24) 138 dX12_runs_124 (by decide) (by omega) (by omega) (fun h_6 => ?_) (fun h_6 => ?_)
            · exact X_vret dX12_runs_138 rfl ⟨rfl, rfl, by rw [h3.2.2]; rfl, rfl⟩
            · exact absurd h_6 (by omega)
        · exact absurd h_4 (by omega)
    · exact absurd h_2 (by omega)

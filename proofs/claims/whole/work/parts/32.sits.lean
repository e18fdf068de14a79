/-- the pool as the reference holds it: how many chairs, guests; from when, till when they lie -/
def PoolM (mi : pMI) (nC nG : Nat) (F T : Nat → Nat) : Prop := mi 91 0 = nI nC ∧ mi 91 1 = nI nG ∧ nC ≤ 8 ∧ nG ≤ 8 ∧ ∀ g, g < nG → mi (121 + g) 1 = nI (F g) ∧ mi (121 + g) 2 = nI (T g) ∧ F g < 23 ∧ T g ≤ 23 ∧ F g < T g
/-- WORTH of chair c to guest gi from h on -/
def wM (mi : pMI) (F T : Nat → Nat) (gi h c : Nat) : Int32 := sW (mi (102 + c) 0) (mi (102 + c) 1) (max h (F gi)) (T gi)
/-- of the first n chairs the free one of most worth, the least of alike ones -/
def bsM (W o : Nat → Int32) : Nat → Option Nat
  | 0 => none
  | n + 1 => match bsM W o n with
    | none => if o n = -1 then some n else none
    | some b => if o n = -1 ∧ W b < W n then some n else some b
theorem bsM_lt {W o : Nat → Int32} : ∀ {n b : Nat}, bsM W o n = some b → b < n
  | 0, b, h => by cases h
  | n + 1, b, h => by
    unfold bsM at h
    cases hq : bsM W o n with
    | none =>
      rw [hq] at h
      by_cases z : o n = -1
      · simp only [z, if_true] at h; cases h; omega
      · simp only [z, if_false] at h; cases h
    | some q =>
      rw [hq] at h
      have := bsM_lt hq
      by_cases z : o n = -1 ∧ W q < W n
      · simp only [z, and_self, if_true] at h; cases h; omega
      · simp only [z, if_false] at h; cases h; omega
def sitsF (m : pMI) (gi h : Nat) (b : Option Nat) : pMI := match b with
  | none => m
  | some c => up2 (up2 (up2 (up2 (up2 (up2 (up2 m 204 c (nI gi)) 195 gi (nI c)) 205 c (nI h)) 196 gi (-1)) 201 gi (m 201 gi + nI 1)) 208 c (m 208 c + nI 1)) 198 gi (if m 198 gi = -1 then nI c else m 198 gi)
set_option maxRecDepth 100000 in
set_option maxHeartbeats 4000000 in
theorem c_sits (Γ : pTG) (g : pGG) (mi : pMI) (ml : pML) (hSh : Sh g) (nC nG : Nat) (F T : Nat → Nat) (hP : PoolM mi nC nG F T) (gi h : Nat) (hg : gi < nG) (hh : h < 24) : cI Γ 3 mX12_sits [.ref 87, .int (nI gi), .int (nI h)] g mi ml (bI (bsM (wM mi F T gi h) (mi 204) nC).isSome) (sitsF mi gi h (bsM (wM mi F T gi h) (mi 204) nC)) := by
  refine cI_of (by decide +kernel) (Nat.le_of_ble_eq_true rfl) ?_
  obtain ⟨hF, hT, hF1, hT1, hFT⟩ := hP.2.2.2.2 gi hg
  have hnC : nC ≤ 8 := hP.2.2.1
  have hnG : nG ≤ 8 := hP.2.2.2.1
  refine X_iconst (v := -1) dX12_sits_0 (by decide) ?_
  refine X_istore_n dX12_sits_1 (by decide) ?_
  refine X_iconst (v := nI 0) dX12_sits_2 (by decide) ?_
  refine X_istore dX12_sits_3 (by decide) ?_
  refine X_L [(4, .int (nI 0)), (3, .int (-1)), (0, .ref 87), (1, .int (nI gi)), (2, .int (nI h))] ⟨rfl, rfl, rfl, rfl, rfl, trivial⟩ ?_
  refine X_for2 (σ := Unit) 5 (fun i x => [(4, .int (nI i)), (3, .int (oI (bsM (wM mi F T gi h) (mi 204) i))), (0, .ref 87), (1, .int (nI gi)), (2, .int (nI h))]) (fun x => mi) (fun x => ml) (fun _ x => x) (fun _ _ => True) nC ?_ nC 0 () (by omega) trivial ?_
  · intro i x hi hI
    refine ⟨trivial, fun hn => ?_⟩
    cases hb : bsM (wM mi F T gi h) (mi 204) i with
    | none =>
      refine X_iload dX12_sits_5 rfl ?_
      refine X_aload_n dX12_sits_7 rfl ?_
      refine X_getr (a := 91) dX12_sits_8 fkX12_23 rfl (k_87 hSh) (r_87_12 hSh) ?_
      refine X_iconst (v := nI 0) dX12_sits_11 (by decide) ?_
      refine X_iald 0 dX12_sits_12 (k_91 hSh) rfl (by omega) ?_
      rw [hP.1]
      refine X_icmp_geN (a := i) (b := nC) 59 dX12_sits_13 (by decide) (by omega) (by omega) (fun h_1 => ?_) (fun h_1 => ?_)
      · exact absurd hi (by omega)
      · refine X_aload_n dX12_sits_16 rfl ?_
        refine X_getr (a := 204) dX12_sits_17 fkX12_101 rfl (k_87 hSh) (r_87_44 hSh) ?_
        refine X_iload dX12_sits_20 rfl ?_
        refine X_iald i dX12_sits_22 (k_204 hSh) rfl (by omega) ?_
        refine X_iconst (v := -1) dX12_sits_23 (by decide) ?_
        refine X_icmp_ne 53 dX12_sits_24 (by decide) (fun h_2 => ?_) (fun h_2 => ?_)
        · refine X_iinc (v := nI (i + 1)) dX12_sits_53 rfl (nI_1 _) (by decide) ?_
          refine X_goto 5 dX12_sits_56 (by decide) ?_
          refine X_L [(4, .int (nI (i + 1))), (3, .int (-1)), (0, .ref 87), (1, .int (nI gi)), (2, .int (nI h))] ⟨rfl, rfl, rfl, rfl, rfl, trivial⟩ ?_
          have e9 : bsM (wM mi F T gi h) (mi 204) (i + 1) = none := by unfold bsM; rw [hb]; simp_all [wM, ← Int32.not_lt]
          rw [e9] at hn
          exact hn
        · refine X_iload_n dX12_sits_27 rfl ?_
          refine X_iconst (v := -1) dX12_sits_28 (by decide) ?_
          refine X_icmp_eq 50 dX12_sits_29 (by decide) (fun h_3 => ?_) (fun h_3 => ?_)
          · refine X_iload dX12_sits_50 rfl ?_
            refine X_istore_n dX12_sits_52 (by decide) ?_
            refine X_iinc (v := nI (i + 1)) dX12_sits_53 rfl (nI_1 _) (by decide) ?_
            refine X_goto 5 dX12_sits_56 (by decide) ?_
            refine X_L [(4, .int (nI (i + 1))), (3, .int (nI i)), (0, .ref 87), (1, .int (nI gi)), (2, .int (nI h))] ⟨rfl, rfl, rfl, rfl, rfl, trivial⟩ ?_
            have e9 : bsM (wM mi F T gi h) (mi 204) (i + 1) = some i := by unfold bsM; rw [hb]; simp_all [wM, ← Int32.not_lt]
            rw [e9] at hn
            exact hn
          · exact absurd rfl h_3
    | some b =>
      have hbi := bsM_lt hb
      refine X_iload dX12_sits_5 rfl ?_
      refine X_aload_n dX12_sits_7 rfl ?_
      refine X_getr (a := 91) dX12_sits_8 fkX12_23 rfl (k_87 hSh) (r_87_12 hSh) ?_
      refine X_iconst (v := nI 0) dX12_sits_11 (by decide) ?_
      refine X_iald 0 dX12_sits_12 (k_91 hSh) rfl (by omega) ?_
      rw [hP.1]
      refine X_icmp_geN (a := i) (b := nC) 59 dX12_sits_13 (by decide) (by omega) (by omega) (fun h_4 => ?_) (fun h_4 => ?_)
      · exact absurd hi (by omega)
      · refine X_aload_n dX12_sits_16 rfl ?_
        refine X_getr (a := 204) dX12_sits_17 fkX12_101 rfl (k_87 hSh) (r_87_44 hSh) ?_
        refine X_iload dX12_sits_20 rfl ?_
        refine X_iald i dX12_sits_22 (k_204 hSh) rfl (by omega) ?_
        refine X_iconst (v := -1) dX12_sits_23 (by decide) ?_
        refine X_icmp_ne 53 dX12_sits_24 (by decide) (fun h_5 => ?_) (fun h_5 => ?_)
        · refine X_iinc (v := nI (i + 1)) dX12_sits_53 rfl (nI_1 _) (by decide) ?_
          refine X_goto 5 dX12_sits_56 (by decide) ?_
          refine X_L [(4, .int (nI (i + 1))), (3, .int (nI b)), (0, .ref 87), (1, .int (nI gi)), (2, .int (nI h))] ⟨rfl, rfl, rfl, rfl, rfl, trivial⟩ ?_
          have e9 : bsM (wM mi F T gi h) (mi 204) (i + 1) = some b := by unfold bsM; rw [hb]; simp_all [wM, ← Int32.not_lt]
          rw [e9] at hn
          exact hn
        · refine X_iload_n dX12_sits_27 rfl ?_
          refine X_iconst (v := -1) dX12_sits_28 (by decide) ?_
          refine X_icmp_eq 50 dX12_sits_29 (by decide) (fun h_6 => ?_) (fun h_6 => ?_)
          · exact absurd h_6 (nI_m1 (by omega))
          · refine X_aload_n dX12_sits_32 rfl ?_
            refine X_iload_n dX12_sits_33 rfl ?_
            refine X_iload dX12_sits_34 rfl ?_
            refine X_iload_n dX12_sits_36 rfl ?_
            refine X_callVI dX12_sits_37 mkX12_310 (k_87 hSh) (c_worthOf Γ g mi ml hSh gi i h _ _ (by omega) (by omega) (by omega) hF hT (by omega) (by omega)) rfl rfl (by decide) (Nat.le_of_ble_eq_true rfl) ?_
            refine X_aload_n dX12_sits_40 rfl ?_
            refine X_iload_n dX12_sits_41 rfl ?_
            refine X_iload_n dX12_sits_42 rfl ?_
            refine X_iload_n dX12_sits_43 rfl ?_
            refine X_callVI dX12_sits_44 mkX12_310 (k_87 hSh) (c_worthOf Γ g mi ml hSh gi b h _ _ (by omega) (by omega) (by omega) hF hT (by omega) (by omega)) rfl rfl (by decide) (Nat.le_of_ble_eq_true rfl) ?_
            refine X_icmp_le 53 dX12_sits_47 (by decide) (fun h_7 => ?_) (fun h_7 => ?_)
            · refine X_iinc (v := nI (i + 1)) dX12_sits_53 rfl (nI_1 _) (by decide) ?_
              refine X_goto 5 dX12_sits_56 (by decide) ?_
              refine X_L [(4, .int (nI (i + 1))), (3, .int (nI b)), (0, .ref 87), (1, .int (nI gi)), (2, .int (nI h))] ⟨rfl, rfl, rfl, rfl, rfl, trivial⟩ ?_
              have e9 : bsM (wM mi F T gi h) (mi 204) (i + 1) = some b := by unfold bsM; rw [hb]; simp_all [wM, ← Int32.not_lt]
              rw [e9] at hn
              exact hn
            · refine X_iload dX12_sits_50 rfl ?_
              refine X_istore_n dX12_sits_52 (by decide) ?_
              refine X_iinc (v := nI (i + 1)) dX12_sits_53 rfl (nI_1 _) (by decide) ?_
              refine X_goto 5 dX12_sits_56 (by decide) ?_
              refine X_L [(4, .int (nI (i + 1))), (3, .int (nI i)), (0, .ref 87), (1, .int (nI gi)), (2, .int (nI h))] ⟨rfl, rfl, rfl, rfl, rfl, trivial⟩ ?_
              have e9 : bsM (wM mi F T gi h) (mi 204) (i + 1) = some i := by unfold bsM; rw [hb]; simp_all [wM, ← Int32.not_lt]
              rw [e9] at hn
              exact hn
  · intro x hI
    cases hb : bsM (wM mi F T gi h) (mi 204) nC with
    | none =>
      refine X_iload dX12_sits_5 rfl ?_
      refine X_aload_n dX12_sits_7 rfl ?_
      refine X_getr (a := 91) dX12_sits_8 fkX12_23 rfl (k_87 hSh) (r_87_12 hSh) ?_
      refine X_iconst (v := nI 0) dX12_sits_11 (by decide) ?_
      refine X_iald 0 dX12_sits_12 (k_91 hSh) rfl (by omega) ?_
      rw [hP.1]
      refine X_icmp_geN (a := nC) (b := nC) 59 dX12_sits_13 (by decide) (by omega) (by omega) (fun h_8 => ?_) (fun h_8 => ?_)
      · refine X_iload_n dX12_sits_59 rfl ?_
        refine X_iconst (v := -1) dX12_sits_60 (by decide) ?_
        refine X_icmp_ne 66 dX12_sits_61 (by decide) (fun h_9 => ?_) (fun h_9 => ?_)
        · exact absurd rfl h_9
        · refine X_iconst (v := nI 0) dX12_sits_64 (by decide) ?_
          exact X_zret (ty := .boolean) dX12_sits_65 rfl (by decide) ⟨rfl, rfl, rfl, rfl⟩
      · exact absurd h_8 (by omega)
    | some b =>
      have hbi := bsM_lt hb
      refine X_iload dX12_sits_5 rfl ?_
      refine X_aload_n dX12_sits_7 rfl ?_
      refine X_getr (a := 91) dX12_sits_8 fkX12_23 rfl (k_87 hSh) (r_87_12 hSh) ?_
      refine X_iconst (v := nI 0) dX12_sits_11 (by decide) ?_
      refine X_iald 0 dX12_sits_12 (k_91 hSh) rfl (by omega) ?_
      rw [hP.1]
      refine X_icmp_geN (a := nC) (b := nC) 59 dX12_sits_13 (by decide) (by omega) (by omega) (fun h_10 => ?_) (fun h_10 => ?_)
      · refine X_iload_n dX12_sits_59 rfl ?_
        refine X_iconst (v := -1) dX12_sits_60 (by decide) ?_
        refine X_icmp_ne 66 dX12_sits_61 (by decide) (fun h_11 => ?_) (fun h_11 => ?_)
        · refine X_aload_n dX12_sits_66 rfl ?_
          refine X_getr (a := 204) dX12_sits_67 fkX12_101 rfl (k_87 hSh) (r_87_44 hSh) ?_
          refine X_iload_n dX12_sits_70 rfl ?_
          refine X_iload_n dX12_sits_71 rfl ?_
          refine X_iast b dX12_sits_72 (k_204 hSh) rfl (by omega) ?_
          refine X_aload_n dX12_sits_73 rfl ?_
          refine X_getr (a := 195) dX12_sits_74 fkX12_74 rfl (k_87 hSh) (r_87_35 hSh) ?_
          refine X_iload_n dX12_sits_77 rfl ?_
          refine X_iload_n dX12_sits_78 rfl ?_
          refine X_iast gi dX12_sits_79 (k_195 hSh) rfl (by omega) ?_
          refine X_aload_n dX12_sits_80 rfl ?_
          refine X_getr (a := 205) dX12_sits_81 fkX12_104 rfl (k_87 hSh) (r_87_45 hSh) ?_
          refine X_iload_n dX12_sits_84 rfl ?_
          refine X_iload_n dX12_sits_85 rfl ?_
          refine X_iast b dX12_sits_86 (k_205 hSh) rfl (by omega) ?_
          refine X_aload_n dX12_sits_87 rfl ?_
          refine X_getr (a := 196) dX12_sits_88 fkX12_77 rfl (k_87 hSh) (r_87_36 hSh) ?_
          refine X_iload_n dX12_sits_91 rfl ?_
          refine X_iconst (v := -1) dX12_sits_92 (by decide) ?_
          refine X_iast gi dX12_sits_93 (k_196 hSh) rfl (by omega) ?_
          refine X_aload_n dX12_sits_94 rfl ?_
          refine X_getr (a := 201) dX12_sits_95 fkX12_92 rfl (k_87 hSh) (r_87_41 hSh) ?_
          refine X_iload_n dX12_sits_98 rfl ?_
          refine X_dup2 dX12_sits_99 rfl rfl ?_
          refine X_iald gi dX12_sits_100 (k_201 hSh) rfl (by omega) ?_
          refine X_topi (show (up2 (up2 (up2 (up2 mi 204 b (nI gi)) 195 gi (nI b)) 205 b (nI h)) 196 gi (-1)) 201 gi = mi 201 gi by simp [up2]) ?_
          refine X_iconst (v := nI 1) dX12_sits_101 (by decide) ?_
          refine X_iadd dX12_sits_102 ?_
          refine X_iast gi dX12_sits_103 (k_201 hSh) rfl (by omega) ?_
          refine X_aload_n dX12_sits_104 rfl ?_
          refine X_getr (a := 208) dX12_sits_105 fkX12_113 rfl (k_87 hSh) (r_87_48 hSh) ?_
          refine X_iload_n dX12_sits_108 rfl ?_
          refine X_dup2 dX12_sits_109 rfl rfl ?_
          refine X_iald b dX12_sits_110 (k_208 hSh) rfl (by omega) ?_
          refine X_topi (show (up2 (up2 (up2 (up2 (up2 mi 204 b (nI gi)) 195 gi (nI b)) 205 b (nI h)) 196 gi (-1)) 201 gi ((mi 201 gi) + (nI 1))) 208 b = mi 208 b by simp [up2]) ?_
          refine X_iconst (v := nI 1) dX12_sits_111 (by decide) ?_
          refine X_iadd dX12_sits_112 ?_
          refine X_iast b dX12_sits_113 (k_208 hSh) rfl (by omega) ?_
          refine X_aload_n dX12_sits_114 rfl ?_
          refine X_getr (a := 198) dX12_sits_115 fkX12_83 rfl (k_87 hSh) (r_87_38 hSh) ?_
          refine X_iload_n dX12_sits_118 rfl ?_
          refine X_aload_n dX12_sits_119 rfl ?_
          refine X_getr (a := 198) dX12_sits_120 fkX12_83 rfl (k_87 hSh) (r_87_38 hSh) ?_
          refine X_iload_n dX12_sits_123 rfl ?_
          refine X_iald gi dX12_sits_124 (k_198 hSh) rfl (by omega) ?_
          refine X_topi (show (up2 (up2 (up2 (up2 (up2 (up2 mi 204 b (nI gi)) 195 gi (nI b)) 205 b (nI h)) 196 gi (-1)) 201 gi ((mi 201 gi) + (nI 1))) 208 b ((mi 208 b) + (nI 1))) 198 gi = mi 198 gi by simp [up2]) ?_
          refine X_iconst (v := -1) dX12_sits_125 (by decide) ?_
          refine X_icmp_ne 133 dX12_sits_126 (by decide) (fun h_12 => ?_) (fun h_12 => ?_)
          · refine X_aload_n dX12_sits_133 rfl ?_
            refine X_getr (a := 198) dX12_sits_134 fkX12_83 rfl (k_87 hSh) (r_87_38 hSh) ?_
            refine X_iload_n dX12_sits_137 rfl ?_
            refine X_iald gi dX12_sits_138 (k_198 hSh) rfl (by omega) ?_
            refine X_topi (show (up2 (up2 (up2 (up2 (up2 (up2 mi 204 b (nI gi)) 195 gi (nI b)) 205 b (nI h)) 196 gi (-1)) 201 gi ((mi 201 gi) + (nI 1))) 208 b ((mi 208 b) + (nI 1))) 198 gi = mi 198 gi by simp [up2]) ?_
            refine X_iast gi dX12_sits_139 (k_198 hSh) rfl (by omega) ?_
            refine X_iconst (v := nI 1) dX12_sits_140 (by decide) ?_
            exact X_zret (ty := .boolean) dX12_sits_141 rfl (by decide) ⟨rfl, rfl, by simp_all [sitsF, oI], rfl⟩
          · refine X_iload_n dX12_sits_129 rfl ?_
            refine X_goto 139 dX12_sits_130 (by decide) ?_
            refine X_iast gi dX12_sits_139 (k_198 hSh) rfl (by omega) ?_
            refine X_iconst (v := nI 1) dX12_sits_140 (by decide) ?_
            exact X_zret (ty := .boolean) dX12_sits_141 rfl (by decide) ⟨rfl, rfl, by simp_all [sitsF, oI], rfl⟩
        · exact absurd h_11 (nI_m1 (by omega))
      · exact absurd h_10 (by omega)

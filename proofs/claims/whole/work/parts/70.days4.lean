/-- what going through days leaves as it was -/
def frX (dd : Nat) (m x : pMI) : Prop := (∀ i, i ≠ 17 → i ≠ 20 → i ≠ 21 → i ≠ dd → i ≠ dd + 2 → i ≠ dd + 4 → (i < dd + 5 ∨ dd + 14 < i) → x i = m i) ∧ (∀ j, j ≠ 4 → x 17 j = m 17 j) ∧ (∀ j, j < 7 → x dd j = m dd j)
theorem frX_r {dd : Nat} {m : pMI} : frX dd m m := ⟨fun _ _ _ _ _ _ _ _ => rfl, fun _ _ => rfl, fun _ _ => rfl⟩
theorem frX_t {dd : Nat} {a b c : pMI} (h1 : frX dd a b) (h2 : frX dd b c) : frX dd a c := ⟨fun i p1 p2 p3 p4 p5 p6 p7 => (h2.1 i p1 p2 p3 p4 p5 p6 p7).trans (h1.1 i p1 p2 p3 p4 p5 p6 p7), fun j hj => (h2.2.1 j hj).trans (h1.2.1 j hj), fun j hj => (h2.2.2 j hj).trans (h1.2.2 j hj)⟩
theorem srW_row {dd d i : Nat} {a : Bool} {l : pML} {m : pMI} (h : i ≠ dd) : srW dd a l d m i = m i := by
  unfold srW
  cases a with
  | true => rfl
  | false =>
    rw [if_neg (by decide)]
    cases fE (fun e => decide (l (dd + 3) e = l (dd + 3) d)) d with
    | none => rfl
    | some e => dsimp only; rw [up2_row h, up2_row h]
theorem srW_lt {dd d j : Nat} {a : Bool} {l : pML} {m : pMI} (h : j < 7) : srW dd a l d m dd j = m dd j := by
  unfold srW
  cases a with
  | true => rfl
  | false =>
    rw [if_neg (by decide)]
    cases fE (fun e => decide (l (dd + 3) e = l (dd + 3) d)) d with
    | none => rfl
    | some e => dsimp only; rw [up2_n (by omega), up2_n (by omega)]
theorem frX_s (Γ : pTG) (g : pGG) (hSh : Sh g) {P : PD} {H : Nat → HBt} {wh : Nat → Nat} {ask : Nat → Bool} {dd d : Nat} {m : pMI} {l : pML} (hC : ShC g (dd + 5)) (hkv : g.2.1 (dd + 2) = (20, 8)) (hP : okPD P) (hH : okH H) (hdd : dd = 27 ∨ dd = 42) (hD : DOK P H wh ask dd d m l) : frX dd m (rcS P H wh ask dd d (m, l)).1 ∧ ∀ i, i ≠ dd + 3 → (rcS P H wh ask dd d (m, l)).2 i = l i := by
  unfold rcS
  dsimp only
  by_cases h0 : m dd 9 = nI 0
  · rw [if_pos h0]
    dsimp only
    obtain ⟨_, a2⟩ := mn_ok hP hH hdd hD h0
    obtain ⟨_, _, b3⟩ := ru_ok Γ g l hSh hC hkv hP hH hdd hD h0
    refine ⟨?_, fun i hi => up2_row hi⟩
    have hs : ∀ i, i ≠ dd → srW dd (anB (fun b => ask (wh b)) P.2.1) (up2 l (dd + 3) d (pkL (sqd P H wh d) P.2.1)) d (seW P H wh dd d m) i = seW P H wh dd d m i := fun i hi => srW_row hi
    have hs2 : ∀ j, j < 7 → srW dd (anB (fun b => ask (wh b)) P.2.1) (up2 l (dd + 3) d (pkL (sqd P H wh d) P.2.1)) d (seW P H wh dd d m) dd j = seW P H wh dd d m dd j := fun j hj => srW_lt hj
    refine ⟨fun i p1 p2 p3 p4 p5 p6 p7 => ?_, fun j hj => ?_, fun j hj => ?_⟩
    · rw [up2_row p4, hs i p4]
      unfold seW
      rw [up2_row p6, b3.1 i (by omega), a2.1 i p2 p3 p1 p5]
    · rw [up2_row (by omega), hs 17 (by omega)]
      unfold seW
      rw [up2_row (by omega), b3.1 17 (by omega), a2.2 j hj]
    · rw [up2_n (by omega), hs2 j hj]
      unfold seW
      rw [up2_row (by omega), b3.1 dd (by omega), a2.1 dd (by omega) (by omega) (by omega) (by omega)]
  · rw [if_neg h0]
    dsimp only
    refine ⟨⟨fun i p1 p2 p3 p4 p5 p6 p7 => by rw [up2_row p4, up2_row p6], fun j hj => by rw [up2_row (by omega), up2_row (by omega)], fun j hj => by rw [up2_n (by omega), up2_row (by omega)]⟩, fun i hi => up2_row hi⟩
set_option maxRecDepth 100000 in
set_option maxHeartbeats 4000000 in
theorem c_reach27 (Γ : pTG) (g : pGG) (mi : pMI) (ml : pML) (hSh : Sh g) (hC : ShC g 32) (P : PD) (hP : okPD P) (H : Nat → HBt) (hH : okH H) (wh : Nat → Nat) (ask : Nat → Bool) (hA : okA H ask) (r day e : Nat) (hday : day < 1000) (he : e = max r (min (day + 1) 200)) (hD : DOK P H wh ask 27 r mi ml) : cV Γ 6 mX3_reach [.ref 27, .int (nI day)] g mi ml (lpS (rcS P H wh ask 27) r (e - r) (mi, ml)).1 (lpS (rcS P H wh ask 27) r (e - r) (mi, ml)).2 := by
  refine cV_of (by decide +kernel) (Nat.le_of_ble_eq_true rfl) ?_
  have hr2 := hD.2.2.2.2.2.2.2.1
  refine X_aload_n dX3_reach_0 rfl ?_
  refine X_geti dX3_reach_1 fkX3_42 rfl (k_27 hSh) ?_
  rw [hD.2.2.2.2.2.2.1]
  refine X_istore_n dX3_reach_4 (by decide) ?_
  refine X_L [(2, .int (nI r)), (0, .ref 27), (1, .int (nI day))] ⟨rfl, rfl, rfl, trivial⟩ ?_
  refine X_for2 (σ := (pMI × pML)) 5 (fun i x => [(2, .int (nI i)), (0, .ref 27), (1, .int (nI day))]) (fun x => x.1) (fun x => x.2) (fun i x => rcS P H wh ask 27 i x) (fun i x => x = lpS (rcS P H wh ask 27) r (i - r) (mi, ml) ∧ DOK P H wh ask 27 i x.1 x.2 ∧ r ≤ i) e ?_ (e - r) r (mi, ml) (by omega) ⟨by rw [Nat.sub_self]; rfl, hD, Nat.le_refl _⟩ ?_
  · intro i x hi hI
    have hir : r ≤ i := hI.2.2
    refine ⟨⟨by rw [show i + 1 - r = (i - r) + 1 by omega, lpS_snoc, ← hI.1, show r + (i - r) = i by omega], dok_step Γ g hSh hC (k_29 hSh) hP hH hA (by omega) (by omega) hI.2.1, by omega⟩, fun hn => ?_⟩
    have hDk := hI.2.1
    obtain ⟨rd, f9, hrd, hrl, hr0, hr1⟩ := hDk.2.2.2.2.2.2.2.2.2
    by_cases hz : rd = 0
    · subst hz
      have hMN := mn_ok hP hH (by omega) hDk hrd
      have hRU := ru_ok Γ g x.2 hSh hC (k_29 hSh) hP hH (by omega) hDk hrd
      have hSE : ∀ q, q = 3 ∨ q = 28 → (seW P H wh 27 i x.1) q = x.1 q := fun q hq => by unfold seW; rw [up2_row (by omega), hRU.2.2.1 q (by omega), hMN.2.1 q (by omega) (by omega) (by omega) (by omega)]
      have hSE5 : (seW P H wh 27 i x.1) 17 5 = x.1 17 5 := by unfold seW; rw [up2_row (by omega), hRU.2.2.1 17 (by omega), hMN.2.2 5 (by omega)]
      refine X_iload_n dX3_reach_5 rfl ?_
      refine X_iload_n dX3_reach_6 rfl ?_
      refine X_icmp_gtN (a := i) (b := day) 158 dX3_reach_7 (by decide) (by omega) (by omega) (fun h_1 => ?_) (fun h_1 => ?_)
      · exact absurd h_1 (by omega)
      · refine X_iload_n dX3_reach_10 rfl ?_
        refine X_sipush (v := nI 200) dX3_reach_11 (by decide) ?_
        refine X_icmp_geN (a := i) (b := 200) 158 dX3_reach_14 (by decide) (by omega) (by omega) (fun h_2 => ?_) (fun h_2 => ?_)
        · exact absurd hi (by omega)
        · refine X_aload_n dX3_reach_17 rfl ?_
          refine X_geti dX3_reach_18 fkX3_49 rfl (k_27 hSh) ?_
          rw [hrd]
          refine X_if_leN (a := 0) 61 dX3_reach_21 (by decide) (by omega) (fun h_3 => ?_) (fun h_3 => ?_)
          · refine X_iload_n dX3_reach_61 rfl ?_
            by_cases hi0 : i = 0
            · refine X_if_neN (a := i) 79 dX3_reach_62 (by decide) (by omega) (fun h_4 => ?_) (fun h_4 => ?_)
              · exact absurd hi0 h_4
              · refine X_aload_n dX3_reach_65 rfl ?_
                refine X_getr (a := 3) dX3_reach_66 fkX3_25 rfl (k_27 hSh) (r_27_0 hSh) ?_
                refine X_aload_n dX3_reach_69 rfl ?_
                refine X_getr (a := 29) dX3_reach_70 fkX3_15 rfl (k_27 hSh) (r_27_4 hSh) ?_
                refine X_callVV dX3_reach_73 mkX3_52 (k_3 hSh) (c_tellWaking Γ g x.1 x.2 hSh 29 (k_29 hSh)) rfl rfl (by decide) (Nat.le_of_ble_eq_true rfl) ?_
                refine X_mi (show _ = mnW P H wh 27 i x.1 from (if_pos hi0).symm) ?_
                refine X_goto 99 dX3_reach_76 (by decide) ?_
                refine X_aload_n dX3_reach_99 rfl ?_
                refine X_getr (a := 32) dX3_reach_100 fkX3_38 rfl (k_27 hSh) (r_27_2 hSh) ?_
                refine X_aload_n dX3_reach_103 rfl ?_
                refine X_getr (a := 29) dX3_reach_104 fkX3_15 rfl (k_27 hSh) (r_27_4 hSh) ?_
                refine X_aload_n dX3_reach_107 rfl ?_
                refine X_getr (a := 3) dX3_reach_108 fkX3_25 rfl (k_27 hSh) (r_27_0 hSh) ?_
                refine X_geti dX3_reach_111 fkX3_64 rfl (k_3 hSh) ?_
                rw [(show (mnW P H wh 27 i x.1) 3 7 = nI P.2.2.2.1 by rw [hMN.2.1 3 (by omega) (by omega) (by omega) (by omega)]; exact hDk.1.2.2.2.1)]
                refine X_callVV dX3_reach_114 mkX3_67 (k_32 hSh) (hRU.1) rfl rfl (by decide) (Nat.le_of_ble_eq_true rfl) ?_
                refine X_aload_n dX3_reach_117 rfl ?_
                refine X_getr (a := 30) dX3_reach_118 fkX3_18 rfl (k_27 hSh) (r_27_5 hSh) ?_
                refine X_iload_n dX3_reach_121 rfl ?_
                refine X_aload_n dX3_reach_122 rfl ?_
                refine X_callVL dX3_reach_123 mkX3_71 (k_27 hSh) (c_packed27 Γ g (ruW P H wh 27 i x.1) x.2 hSh P.2.1 (by rw [hRU.2.2.1 3 (by omega), hMN.2.1 3 (by omega) (by omega) (by omega) (by omega)]; exact hDk.1.2.1) hP.2.1 (sqd P H wh i) (fun b hb => by rw [hRU.2.2.1 29 (by omega)]; exact hMN.1 b hb)) rfl rfl (by decide) (Nat.le_of_ble_eq_true rfl) ?_
                refine X_last i dX3_reach_126 (k_30 hSh) rfl (by omega) ?_
                refine X_aload_n dX3_reach_127 rfl ?_
                refine X_getr (a := 31) dX3_reach_128 fkX3_22 rfl (k_27 hSh) (r_27_6 hSh) ?_
                refine X_iload_n dX3_reach_131 rfl ?_
                refine X_aload_n dX3_reach_132 rfl ?_
                refine X_getr (a := 32) dX3_reach_133 fkX3_38 rfl (k_27 hSh) (r_27_2 hSh) ?_
                refine X_callVI dX3_reach_136 mkX3_75 (k_32 hSh) (c_seated Γ g (ruW P H wh 27 i x.1) (up2 x.2 30 i (pkL (sqd P H wh i) P.2.1)) hSh 32 hC P.2.1 (by rw [hRU.2.2.1 3 (by omega), hMN.2.1 3 (by omega) (by omega) (by omega) (by omega)]; exact hDk.1.2.1) hP.2.1) rfl rfl (by decide) (Nat.le_of_ble_eq_true rfl) ?_
                refine X_iast i dX3_reach_139 (k_31 hSh) rfl (by omega) ?_
                refine X_mi (show _ = (seW P H wh 27 i x.1) from rfl) ?_
                refine X_aload_n dX3_reach_140 rfl ?_
                refine X_iload_n dX3_reach_141 rfl ?_
                refine X_callVV dX3_reach_142 mkX3_78 (k_27 hSh) (c_seekRound27 Γ g (seW P H wh 27 i x.1) (up2 x.2 30 i (pkL (sqd P H wh i) P.2.1)) hSh P.2.1 (by rw [hSE 3 (by omega)]; exact hDk.1.2.1) hP.2.1 ask (by rw [hSE5]; exact hDk.2.2.1) wh (fun b hb => by rw [hSE 28 (by omega)]; exact hDk.2.2.2.1 b (by have := hP.2.1; omega)) i (by omega)) rfl rfl (by decide) (Nat.le_of_ble_eq_true rfl) ?_
                refine X_aload_n dX3_reach_145 rfl ?_
                refine X_iload_n dX3_reach_146 rfl ?_
                refine X_iconst (v := nI 1) dX3_reach_147 (by decide) ?_
                refine X_iadd dX3_reach_148 ?_
                refine X_topi (nI_add i 1) ?_
                refine X_puti dX3_reach_149 fkX3_42 rfl rfl (k_27 hSh) ?_
                refine X_iinc (v := nI (i + 1)) dX3_reach_152 rfl (nI_1 _) (by decide) ?_
                refine X_goto 5 dX3_reach_155 (by decide) ?_
                refine X_L [(2, .int (nI (i + 1))), (0, .ref 27), (1, .int (nI day))] ⟨rfl, rfl, rfl, trivial⟩ ?_
                rw [show rcS P H wh ask 27 i x = _ from if_pos hrd] at hn
                exact hn
            · have hcd := (hr0 rfl).1 (by omega)
              refine X_if_neN (a := i) 79 dX3_reach_62 (by decide) (by omega) (fun h_5 => ?_) (fun h_5 => ?_)
              · refine X_aload_n dX3_reach_79 rfl ?_
                refine X_getr (a := 17) dX3_reach_80 fkX3_29 rfl (k_27 hSh) (r_27_1 hSh) ?_
                refine X_aload_n dX3_reach_83 rfl ?_
                refine X_getr (a := 32) dX3_reach_84 fkX3_38 rfl (k_27 hSh) (r_27_2 hSh) ?_
                refine X_aload_n dX3_reach_87 rfl ?_
                refine X_getr (a := 28) dX3_reach_88 fkX3_9 rfl (k_27 hSh) (r_27_3 hSh) ?_
                refine X_iload_n dX3_reach_91 rfl ?_
                refine X_aload_n dX3_reach_92 rfl ?_
                refine X_getr (a := 29) dX3_reach_93 fkX3_15 rfl (k_27 hSh) (r_27_4 hSh) ?_
                refine X_callVV dX3_reach_96 mkX3_58 (k_17 hSh) (c_nextMorning Γ g x.1 x.2 hSh 32 hC P.2.1 hDk.1.2.1 hP.2.1 (sqd P H wh (i - 1)) (fun b hb => ⟨(hcd.1 b hb).1, sqd_lt hP _ b⟩) (by omega) 28 29 (k_28 hSh) (k_29 hSh) (by omega) wh (fun b hb => hDk.2.2.2.1 b (by have := hP.2.1; omega)) H hH hDk.2.1 (nI i)) rfl rfl (by decide) (Nat.le_of_ble_eq_true rfl) ?_
                refine X_mi (show _ = mnW P H wh 27 i x.1 from (if_neg hi0).symm) ?_
                refine X_aload_n dX3_reach_99 rfl ?_
                refine X_getr (a := 32) dX3_reach_100 fkX3_38 rfl (k_27 hSh) (r_27_2 hSh) ?_
                refine X_aload_n dX3_reach_103 rfl ?_
                refine X_getr (a := 29) dX3_reach_104 fkX3_15 rfl (k_27 hSh) (r_27_4 hSh) ?_
                refine X_aload_n dX3_reach_107 rfl ?_
                refine X_getr (a := 3) dX3_reach_108 fkX3_25 rfl (k_27 hSh) (r_27_0 hSh) ?_
                refine X_geti dX3_reach_111 fkX3_64 rfl (k_3 hSh) ?_
                rw [(show (mnW P H wh 27 i x.1) 3 7 = nI P.2.2.2.1 by rw [hMN.2.1 3 (by omega) (by omega) (by omega) (by omega)]; exact hDk.1.2.2.2.1)]
                refine X_callVV dX3_reach_114 mkX3_67 (k_32 hSh) (hRU.1) rfl rfl (by decide) (Nat.le_of_ble_eq_true rfl) ?_
                refine X_aload_n dX3_reach_117 rfl ?_
                refine X_getr (a := 30) dX3_reach_118 fkX3_18 rfl (k_27 hSh) (r_27_5 hSh) ?_
                refine X_iload_n dX3_reach_121 rfl ?_
                refine X_aload_n dX3_reach_122 rfl ?_
                refine X_callVL dX3_reach_123 mkX3_71 (k_27 hSh) (c_packed27 Γ g (ruW P H wh 27 i x.1) x.2 hSh P.2.1 (by rw [hRU.2.2.1 3 (by omega), hMN.2.1 3 (by omega) (by omega) (by omega) (by omega)]; exact hDk.1.2.1) hP.2.1 (sqd P H wh i) (fun b hb => by rw [hRU.2.2.1 29 (by omega)]; exact hMN.1 b hb)) rfl rfl (by decide) (Nat.le_of_ble_eq_true rfl) ?_
                refine X_last i dX3_reach_126 (k_30 hSh) rfl (by omega) ?_
                refine X_aload_n dX3_reach_127 rfl ?_
                refine X_getr (a := 31) dX3_reach_128 fkX3_22 rfl (k_27 hSh) (r_27_6 hSh) ?_
                refine X_iload_n dX3_reach_131 rfl ?_
                refine X_aload_n dX3_reach_132 rfl ?_
                refine X_getr (a := 32) dX3_reach_133 fkX3_38 rfl (k_27 hSh) (r_27_2 hSh) ?_
                refine X_callVI dX3_reach_136 mkX3_75 (k_32 hSh) (c_seated Γ g (ruW P H wh 27 i x.1) (up2 x.2 30 i (pkL (sqd P H wh i) P.2.1)) hSh 32 hC P.2.1 (by rw [hRU.2.2.1 3 (by omega), hMN.2.1 3 (by omega) (by omega) (by omega) (by omega)]; exact hDk.1.2.1) hP.2.1) rfl rfl (by decide) (Nat.le_of_ble_eq_true rfl) ?_
                refine X_iast i dX3_reach_139 (k_31 hSh) rfl (by omega) ?_
                refine X_mi (show _ = (seW P H wh 27 i x.1) from rfl) ?_
                refine X_aload_n dX3_reach_140 rfl ?_
                refine X_iload_n dX3_reach_141 rfl ?_
                refine X_callVV dX3_reach_142 mkX3_78 (k_27 hSh) (c_seekRound27 Γ g (seW P H wh 27 i x.1) (up2 x.2 30 i (pkL (sqd P H wh i) P.2.1)) hSh P.2.1 (by rw [hSE 3 (by omega)]; exact hDk.1.2.1) hP.2.1 ask (by rw [hSE5]; exact hDk.2.2.1) wh (fun b hb => by rw [hSE 28 (by omega)]; exact hDk.2.2.2.1 b (by have := hP.2.1; omega)) i (by omega)) rfl rfl (by decide) (Nat.le_of_ble_eq_true rfl) ?_
                refine X_aload_n dX3_reach_145 rfl ?_
                refine X_iload_n dX3_reach_146 rfl ?_
                refine X_iconst (v := nI 1) dX3_reach_147 (by decide) ?_
                refine X_iadd dX3_reach_148 ?_
                refine X_topi (nI_add i 1) ?_
                refine X_puti dX3_reach_149 fkX3_42 rfl rfl (k_27 hSh) ?_
                refine X_iinc (v := nI (i + 1)) dX3_reach_152 rfl (nI_1 _) (by decide) ?_
                refine X_goto 5 dX3_reach_155 (by decide) ?_
                refine X_L [(2, .int (nI (i + 1))), (0, .ref 27), (1, .int (nI day))] ⟨rfl, rfl, rfl, trivial⟩ ?_
                rw [show rcS P H wh ask 27 i x = _ from if_pos hrd] at hn
                exact hn
              · exact absurd h_5 hi0
          · exact absurd h_3 (by omega)
    · obtain ⟨_, _, hfr, _⟩ := hr1 (by omega)
      refine X_iload_n dX3_reach_5 rfl ?_
      refine X_iload_n dX3_reach_6 rfl ?_
      refine X_icmp_gtN (a := i) (b := day) 158 dX3_reach_7 (by decide) (by omega) (by omega) (fun h_6 => ?_) (fun h_6 => ?_)
      · exact absurd h_6 (by omega)
      · refine X_iload_n dX3_reach_10 rfl ?_
        refine X_sipush (v := nI 200) dX3_reach_11 (by decide) ?_
        refine X_icmp_geN (a := i) (b := 200) 158 dX3_reach_14 (by decide) (by omega) (by omega) (fun h_7 => ?_) (fun h_7 => ?_)
        · exact absurd hi (by omega)
        · refine X_aload_n dX3_reach_17 rfl ?_
          refine X_geti dX3_reach_18 fkX3_49 rfl (k_27 hSh) ?_
          rw [hrd]
          refine X_if_leN (a := rd) 61 dX3_reach_21 (by decide) (by omega) (fun h_8 => ?_) (fun h_8 => ?_)
          · exact absurd h_8 (by omega)
          · refine X_aload_n dX3_reach_24 rfl ?_
            refine X_getr (a := 30) dX3_reach_25 fkX3_18 rfl (k_27 hSh) (r_27_5 hSh) ?_
            refine X_iload_n dX3_reach_28 rfl ?_
            refine X_aload_n dX3_reach_29 rfl ?_
            refine X_getr (a := 30) dX3_reach_30 fkX3_18 rfl (k_27 hSh) (r_27_5 hSh) ?_
            refine X_iload_n dX3_reach_33 rfl ?_
            refine X_aload_n dX3_reach_34 rfl ?_
            refine X_geti dX3_reach_35 fkX3_49 rfl (k_27 hSh) ?_
            rw [hrd]
            refine X_isub dX3_reach_38 ?_
            refine X_topi (pk_sub (a := i) (b := rd) (by omega)) ?_
            refine X_lald (i - rd) dX3_reach_39 (k_30 hSh) rfl (by omega) ?_
            refine X_last i dX3_reach_40 (k_30 hSh) rfl (by omega) ?_
            refine X_aload_n dX3_reach_41 rfl ?_
            refine X_getr (a := 31) dX3_reach_42 fkX3_22 rfl (k_27 hSh) (r_27_6 hSh) ?_
            refine X_iload_n dX3_reach_45 rfl ?_
            refine X_aload_n dX3_reach_46 rfl ?_
            refine X_getr (a := 31) dX3_reach_47 fkX3_22 rfl (k_27 hSh) (r_27_6 hSh) ?_
            refine X_iload_n dX3_reach_50 rfl ?_
            refine X_aload_n dX3_reach_51 rfl ?_
            refine X_geti dX3_reach_52 fkX3_49 rfl (k_27 hSh) ?_
            rw [hrd]
            refine X_isub dX3_reach_55 ?_
            refine X_topi (pk_sub (a := i) (b := rd) (by omega)) ?_
            refine X_iald (i - rd) dX3_reach_56 (k_31 hSh) rfl (by omega) ?_
            refine X_iast i dX3_reach_57 (k_31 hSh) rfl (by omega) ?_
            refine X_goto 145 dX3_reach_58 (by decide) ?_
            refine X_aload_n dX3_reach_145 rfl ?_
            refine X_iload_n dX3_reach_146 rfl ?_
            refine X_iconst (v := nI 1) dX3_reach_147 (by decide) ?_
            refine X_iadd dX3_reach_148 ?_
            refine X_topi (nI_add i 1) ?_
            refine X_puti dX3_reach_149 fkX3_42 rfl rfl (k_27 hSh) ?_
            refine X_iinc (v := nI (i + 1)) dX3_reach_152 rfl (nI_1 _) (by decide) ?_
            refine X_goto 5 dX3_reach_155 (by decide) ?_
            refine X_L [(2, .int (nI (i + 1))), (0, .ref 27), (1, .int (nI day))] ⟨rfl, rfl, rfl, trivial⟩ ?_
            rw [show rcS P H wh ask 27 i x = _ from if_neg (by rw [hrd]; exact nI_ne0 (by omega) (by omega)), hrd, uN_nI (by omega)] at hn
            exact hn
  · intro x hI
    refine X_iload_n dX3_reach_5 rfl ?_
    refine X_iload_n dX3_reach_6 rfl ?_
    refine X_icmp_gtN (a := e) (b := day) 158 dX3_reach_7 (by decide) (by omega) (by omega) (fun h_9 => ?_) (fun h_9 => ?_)
    · exact X_vret dX3_reach_158 rfl ⟨rfl, rfl, by rw [hI.1], by rw [hI.1]⟩
    · refine X_iload_n dX3_reach_10 rfl ?_
      refine X_sipush (v := nI 200) dX3_reach_11 (by decide) ?_
      refine X_icmp_geN (a := e) (b := 200) 158 dX3_reach_14 (by decide) (by omega) (by omega) (fun h_10 => ?_) (fun h_10 => ?_)
      · exact X_vret dX3_reach_158 rfl ⟨rfl, rfl, by rw [hI.1], by rw [hI.1]⟩
      · exact absurd h_10 (by omega)
set_option maxRecDepth 100000 in
set_option maxHeartbeats 4000000 in
theorem c_reach42 (Γ : pTG) (g : pGG) (mi : pMI) (ml : pML) (hSh : Sh g) (hC : ShC g 47) (P : PD) (hP : okPD P) (H : Nat → HBt) (hH : okH H) (wh : Nat → Nat) (ask : Nat → Bool) (hA : okA H ask) (r day e : Nat) (hday : day < 1000) (he : e = max r (min (day + 1) 200)) (hD : DOK P H wh ask 42 r mi ml) : cV Γ 6 mX3_reach [.ref 42, .int (nI day)] g mi ml (lpS (rcS P H wh ask 42) r (e - r) (mi, ml)).1 (lpS (rcS P H wh ask 42) r (e - r) (mi, ml)).2 := by
  refine cV_of (by decide +kernel) (Nat.le_of_ble_eq_true rfl) ?_
  have hr2 := hD.2.2.2.2.2.2.2.1
  refine X_aload_n dX3_reach_0 rfl ?_
  refine X_geti dX3_reach_1 fkX3_42 rfl (k_42 hSh) ?_
  rw [hD.2.2.2.2.2.2.1]
  refine X_istore_n dX3_reach_4 (by decide) ?_
  refine X_L [(2, .int (nI r)), (0, .ref 42), (1, .int (nI day))] ⟨rfl, rfl, rfl, trivial⟩ ?_
  refine X_for2 (σ := (pMI × pML)) 5 (fun i x => [(2, .int (nI i)), (0, .ref 42), (1, .int (nI day))]) (fun x => x.1) (fun x => x.2) (fun i x => rcS P H wh ask 42 i x) (fun i x => x = lpS (rcS P H wh ask 42) r (i - r) (mi, ml) ∧ DOK P H wh ask 42 i x.1 x.2 ∧ r ≤ i) e ?_ (e - r) r (mi, ml) (by omega) ⟨by rw [Nat.sub_self]; rfl, hD, Nat.le_refl _⟩ ?_
  · intro i x hi hI
    have hir : r ≤ i := hI.2.2
    refine ⟨⟨by rw [show i + 1 - r = (i - r) + 1 by omega, lpS_snoc, ← hI.1, show r + (i - r) = i by omega], dok_step Γ g hSh hC (k_44 hSh) hP hH hA (by omega) (by omega) hI.2.1, by omega⟩, fun hn => ?_⟩
    have hDk := hI.2.1
    obtain ⟨rd, f9, hrd, hrl, hr0, hr1⟩ := hDk.2.2.2.2.2.2.2.2.2
    by_cases hz : rd = 0
    · subst hz
      have hMN := mn_ok hP hH (by omega) hDk hrd
      have hRU := ru_ok Γ g x.2 hSh hC (k_44 hSh) hP hH (by omega) hDk hrd
      have hSE : ∀ q, q = 3 ∨ q = 43 → (seW P H wh 42 i x.1) q = x.1 q := fun q hq => by unfold seW; rw [up2_row (by omega), hRU.2.2.1 q (by omega), hMN.2.1 q (by omega) (by omega) (by omega) (by omega)]
      have hSE5 : (seW P H wh 42 i x.1) 17 5 = x.1 17 5 := by unfold seW; rw [up2_row (by omega), hRU.2.2.1 17 (by omega), hMN.2.2 5 (by omega)]
      refine X_iload_n dX3_reach_5 rfl ?_
      refine X_iload_n dX3_reach_6 rfl ?_
      refine X_icmp_gtN (a := i) (b := day) 158 dX3_reach_7 (by decide) (by omega) (by omega) (fun h_1 => ?_) (fun h_1 => ?_)
      · exact absurd h_1 (by omega)
      · refine X_iload_n dX3_reach_10 rfl ?_
        refine X_sipush (v := nI 200) dX3_reach_11 (by decide) ?_
        refine X_icmp_geN (a := i) (b := 200) 158 dX3_reach_14 (by decide) (by omega) (by omega) (fun h_2 => ?_) (fun h_2 => ?_)
        · exact absurd hi (by omega)
        · refine X_aload_n dX3_reach_17 rfl ?_
          refine X_geti dX3_reach_18 fkX3_49 rfl (k_42 hSh) ?_
          rw [hrd]
          refine X_if_leN (a := 0) 61 dX3_reach_21 (by decide) (by omega) (fun h_3 => ?_) (fun h_3 => ?_)
          · refine X_iload_n dX3_reach_61 rfl ?_
            by_cases hi0 : i = 0
            · refine X_if_neN (a := i) 79 dX3_reach_62 (by decide) (by omega) (fun h_4 => ?_) (fun h_4 => ?_)
              · exact absurd hi0 h_4
              · refine X_aload_n dX3_reach_65 rfl ?_
                refine X_getr (a := 3) dX3_reach_66 fkX3_25 rfl (k_42 hSh) (r_42_0 hSh) ?_
                refine X_aload_n dX3_reach_69 rfl ?_
                refine X_getr (a := 44) dX3_reach_70 fkX3_15 rfl (k_42 hSh) (r_42_4 hSh) ?_
                refine X_callVV dX3_reach_73 mkX3_52 (k_3 hSh) (c_tellWaking Γ g x.1 x.2 hSh 44 (k_44 hSh)) rfl rfl (by decide) (Nat.le_of_ble_eq_true rfl) ?_
                refine X_mi (show _ = mnW P H wh 42 i x.1 from (if_pos hi0).symm) ?_
                refine X_goto 99 dX3_reach_76 (by decide) ?_
                refine X_aload_n dX3_reach_99 rfl ?_
                refine X_getr (a := 47) dX3_reach_100 fkX3_38 rfl (k_42 hSh) (r_42_2 hSh) ?_
                refine X_aload_n dX3_reach_103 rfl ?_
                refine X_getr (a := 44) dX3_reach_104 fkX3_15 rfl (k_42 hSh) (r_42_4 hSh) ?_
                refine X_aload_n dX3_reach_107 rfl ?_
                refine X_getr (a := 3) dX3_reach_108 fkX3_25 rfl (k_42 hSh) (r_42_0 hSh) ?_
                refine X_geti dX3_reach_111 fkX3_64 rfl (k_3 hSh) ?_
                rw [(show (mnW P H wh 42 i x.1) 3 7 = nI P.2.2.2.1 by rw [hMN.2.1 3 (by omega) (by omega) (by omega) (by omega)]; exact hDk.1.2.2.2.1)]
                refine X_callVV dX3_reach_114 mkX3_67 (k_47 hSh) (hRU.1) rfl rfl (by decide) (Nat.le_of_ble_eq_true rfl) ?_
                refine X_aload_n dX3_reach_117 rfl ?_
                refine X_getr (a := 45) dX3_reach_118 fkX3_18 rfl (k_42 hSh) (r_42_5 hSh) ?_
                refine X_iload_n dX3_reach_121 rfl ?_
                refine X_aload_n dX3_reach_122 rfl ?_
                refine X_callVL dX3_reach_123 mkX3_71 (k_42 hSh) (c_packed42 Γ g (ruW P H wh 42 i x.1) x.2 hSh P.2.1 (by rw [hRU.2.2.1 3 (by omega), hMN.2.1 3 (by omega) (by omega) (by omega) (by omega)]; exact hDk.1.2.1) hP.2.1 (sqd P H wh i) (fun b hb => by rw [hRU.2.2.1 44 (by omega)]; exact hMN.1 b hb)) rfl rfl (by decide) (Nat.le_of_ble_eq_true rfl) ?_
                refine X_last i dX3_reach_126 (k_45 hSh) rfl (by omega) ?_
                refine X_aload_n dX3_reach_127 rfl ?_
                refine X_getr (a := 46) dX3_reach_128 fkX3_22 rfl (k_42 hSh) (r_42_6 hSh) ?_
                refine X_iload_n dX3_reach_131 rfl ?_
                refine X_aload_n dX3_reach_132 rfl ?_
                refine X_getr (a := 47) dX3_reach_133 fkX3_38 rfl (k_42 hSh) (r_42_2 hSh) ?_
                refine X_callVI dX3_reach_136 mkX3_75 (k_47 hSh) (c_seated Γ g (ruW P H wh 42 i x.1) (up2 x.2 45 i (pkL (sqd P H wh i) P.2.1)) hSh 47 hC P.2.1 (by rw [hRU.2.2.1 3 (by omega), hMN.2.1 3 (by omega) (by omega) (by omega) (by omega)]; exact hDk.1.2.1) hP.2.1) rfl rfl (by decide) (Nat.le_of_ble_eq_true rfl) ?_
                refine X_iast i dX3_reach_139 (k_46 hSh) rfl (by omega) ?_
                refine X_mi (show _ = (seW P H wh 42 i x.1) from rfl) ?_
                refine X_aload_n dX3_reach_140 rfl ?_
                refine X_iload_n dX3_reach_141 rfl ?_
                refine X_callVV dX3_reach_142 mkX3_78 (k_42 hSh) (c_seekRound42 Γ g (seW P H wh 42 i x.1) (up2 x.2 45 i (pkL (sqd P H wh i) P.2.1)) hSh P.2.1 (by rw [hSE 3 (by omega)]; exact hDk.1.2.1) hP.2.1 ask (by rw [hSE5]; exact hDk.2.2.1) wh (fun b hb => by rw [hSE 43 (by omega)]; exact hDk.2.2.2.1 b (by have := hP.2.1; omega)) i (by omega)) rfl rfl (by decide) (Nat.le_of_ble_eq_true rfl) ?_
                refine X_aload_n dX3_reach_145 rfl ?_
                refine X_iload_n dX3_reach_146 rfl ?_
                refine X_iconst (v := nI 1) dX3_reach_147 (by decide) ?_
                refine X_iadd dX3_reach_148 ?_
                refine X_topi (nI_add i 1) ?_
                refine X_puti dX3_reach_149 fkX3_42 rfl rfl (k_42 hSh) ?_
                refine X_iinc (v := nI (i + 1)) dX3_reach_152 rfl (nI_1 _) (by decide) ?_
                refine X_goto 5 dX3_reach_155 (by decide) ?_
                refine X_L [(2, .int (nI (i + 1))), (0, .ref 42), (1, .int (nI day))] ⟨rfl, rfl, rfl, trivial⟩ ?_
                rw [show rcS P H wh ask 42 i x = _ from if_pos hrd] at hn
                exact hn
            · have hcd := (hr0 rfl).1 (by omega)
              refine X_if_neN (a := i) 79 dX3_reach_62 (by decide) (by omega) (fun h_5 => ?_) (fun h_5 => ?_)
              · refine X_aload_n dX3_reach_79 rfl ?_
                refine X_getr (a := 17) dX3_reach_80 fkX3_29 rfl (k_42 hSh) (r_42_1 hSh) ?_
                refine X_aload_n dX3_reach_83 rfl ?_
                refine X_getr (a := 47) dX3_reach_84 fkX3_38 rfl (k_42 hSh) (r_42_2 hSh) ?_
                refine X_aload_n dX3_reach_87 rfl ?_
                refine X_getr (a := 43) dX3_reach_88 fkX3_9 rfl (k_42 hSh) (r_42_3 hSh) ?_
                refine X_iload_n dX3_reach_91 rfl ?_
                refine X_aload_n dX3_reach_92 rfl ?_
                refine X_getr (a := 44) dX3_reach_93 fkX3_15 rfl (k_42 hSh) (r_42_4 hSh) ?_
                refine X_callVV dX3_reach_96 mkX3_58 (k_17 hSh) (c_nextMorning Γ g x.1 x.2 hSh 47 hC P.2.1 hDk.1.2.1 hP.2.1 (sqd P H wh (i - 1)) (fun b hb => ⟨(hcd.1 b hb).1, sqd_lt hP _ b⟩) (by omega) 43 44 (k_43 hSh) (k_44 hSh) (by omega) wh (fun b hb => hDk.2.2.2.1 b (by have := hP.2.1; omega)) H hH hDk.2.1 (nI i)) rfl rfl (by decide) (Nat.le_of_ble_eq_true rfl) ?_
                refine X_mi (show _ = mnW P H wh 42 i x.1 from (if_neg hi0).symm) ?_
                refine X_aload_n dX3_reach_99 rfl ?_
                refine X_getr (a := 47) dX3_reach_100 fkX3_38 rfl (k_42 hSh) (r_42_2 hSh) ?_
                refine X_aload_n dX3_reach_103 rfl ?_
                refine X_getr (a := 44) dX3_reach_104 fkX3_15 rfl (k_42 hSh) (r_42_4 hSh) ?_
                refine X_aload_n dX3_reach_107 rfl ?_
                refine X_getr (a := 3) dX3_reach_108 fkX3_25 rfl (k_42 hSh) (r_42_0 hSh) ?_
                refine X_geti dX3_reach_111 fkX3_64 rfl (k_3 hSh) ?_
                rw [(show (mnW P H wh 42 i x.1) 3 7 = nI P.2.2.2.1 by rw [hMN.2.1 3 (by omega) (by omega) (by omega) (by omega)]; exact hDk.1.2.2.2.1)]
                refine X_callVV dX3_reach_114 mkX3_67 (k_47 hSh) (hRU.1) rfl rfl (by decide) (Nat.le_of_ble_eq_true rfl) ?_
                refine X_aload_n dX3_reach_117 rfl ?_
                refine X_getr (a := 45) dX3_reach_118 fkX3_18 rfl (k_42 hSh) (r_42_5 hSh) ?_
                refine X_iload_n dX3_reach_121 rfl ?_
                refine X_aload_n dX3_reach_122 rfl ?_
                refine X_callVL dX3_reach_123 mkX3_71 (k_42 hSh) (c_packed42 Γ g (ruW P H wh 42 i x.1) x.2 hSh P.2.1 (by rw [hRU.2.2.1 3 (by omega), hMN.2.1 3 (by omega) (by omega) (by omega) (by omega)]; exact hDk.1.2.1) hP.2.1 (sqd P H wh i) (fun b hb => by rw [hRU.2.2.1 44 (by omega)]; exact hMN.1 b hb)) rfl rfl (by decide) (Nat.le_of_ble_eq_true rfl) ?_
                refine X_last i dX3_reach_126 (k_45 hSh) rfl (by omega) ?_
                refine X_aload_n dX3_reach_127 rfl ?_
                refine X_getr (a := 46) dX3_reach_128 fkX3_22 rfl (k_42 hSh) (r_42_6 hSh) ?_
                refine X_iload_n dX3_reach_131 rfl ?_
                refine X_aload_n dX3_reach_132 rfl ?_
                refine X_getr (a := 47) dX3_reach_133 fkX3_38 rfl (k_42 hSh) (r_42_2 hSh) ?_
                refine X_callVI dX3_reach_136 mkX3_75 (k_47 hSh) (c_seated Γ g (ruW P H wh 42 i x.1) (up2 x.2 45 i (pkL (sqd P H wh i) P.2.1)) hSh 47 hC P.2.1 (by rw [hRU.2.2.1 3 (by omega), hMN.2.1 3 (by omega) (by omega) (by omega) (by omega)]; exact hDk.1.2.1) hP.2.1) rfl rfl (by decide) (Nat.le_of_ble_eq_true rfl) ?_
                refine X_iast i dX3_reach_139 (k_46 hSh) rfl (by omega) ?_
                refine X_mi (show _ = (seW P H wh 42 i x.1) from rfl) ?_
                refine X_aload_n dX3_reach_140 rfl ?_
                refine X_iload_n dX3_reach_141 rfl ?_
                refine X_callVV dX3_reach_142 mkX3_78 (k_42 hSh) (c_seekRound42 Γ g (seW P H wh 42 i x.1) (up2 x.2 45 i (pkL (sqd P H wh i) P.2.1)) hSh P.2.1 (by rw [hSE 3 (by omega)]; exact hDk.1.2.1) hP.2.1 ask (by rw [hSE5]; exact hDk.2.2.1) wh (fun b hb => by rw [hSE 43 (by omega)]; exact hDk.2.2.2.1 b (by have := hP.2.1; omega)) i (by omega)) rfl rfl (by decide) (Nat.le_of_ble_eq_true rfl) ?_
                refine X_aload_n dX3_reach_145 rfl ?_
                refine X_iload_n dX3_reach_146 rfl ?_
                refine X_iconst (v := nI 1) dX3_reach_147 (by decide) ?_
                refine X_iadd dX3_reach_148 ?_
                refine X_topi (nI_add i 1) ?_
                refine X_puti dX3_reach_149 fkX3_42 rfl rfl (k_42 hSh) ?_
                refine X_iinc (v := nI (i + 1)) dX3_reach_152 rfl (nI_1 _) (by decide) ?_
                refine X_goto 5 dX3_reach_155 (by decide) ?_
                refine X_L [(2, .int (nI (i + 1))), (0, .ref 42), (1, .int (nI day))] ⟨rfl, rfl, rfl, trivial⟩ ?_
                rw [show rcS P H wh ask 42 i x = _ from if_pos hrd] at hn
                exact hn
              · exact absurd h_5 hi0
          · exact absurd h_3 (by omega)
    · obtain ⟨_, _, hfr, _⟩ := hr1 (by omega)
      refine X_iload_n dX3_reach_5 rfl ?_
      refine X_iload_n dX3_reach_6 rfl ?_
      refine X_icmp_gtN (a := i) (b := day) 158 dX3_reach_7 (by decide) (by omega) (by omega) (fun h_6 => ?_) (fun h_6 => ?_)
      · exact absurd h_6 (by omega)
      · refine X_iload_n dX3_reach_10 rfl ?_
        refine X_sipush (v := nI 200) dX3_reach_11 (by decide) ?_
        refine X_icmp_geN (a := i) (b := 200) 158 dX3_reach_14 (by decide) (by omega) (by omega) (fun h_7 => ?_) (fun h_7 => ?_)
        · exact absurd hi (by omega)
        · refine X_aload_n dX3_reach_17 rfl ?_
          refine X_geti dX3_reach_18 fkX3_49 rfl (k_42 hSh) ?_
          rw [hrd]
          refine X_if_leN (a := rd) 61 dX3_reach_21 (by decide) (by omega) (fun h_8 => ?_) (fun h_8 => ?_)
          · exact absurd h_8 (by omega)
          · refine X_aload_n dX3_reach_24 rfl ?_
            refine X_getr (a := 45) dX3_reach_25 fkX3_18 rfl (k_42 hSh) (r_42_5 hSh) ?_
            refine X_iload_n dX3_reach_28 rfl ?_
            refine X_aload_n dX3_reach_29 rfl ?_
            refine X_getr (a := 45) dX3_reach_30 fkX3_18 rfl (k_42 hSh) (r_42_5 hSh) ?_
            refine X_iload_n dX3_reach_33 rfl ?_
            refine X_aload_n dX3_reach_34 rfl ?_
            refine X_geti dX3_reach_35 fkX3_49 rfl (k_42 hSh) ?_
            rw [hrd]
            refine X_isub dX3_reach_38 ?_
            refine X_topi (pk_sub (a := i) (b := rd) (by omega)) ?_
            refine X_lald (i - rd) dX3_reach_39 (k_45 hSh) rfl (by omega) ?_
            refine X_last i dX3_reach_40 (k_45 hSh) rfl (by omega) ?_
            refine X_aload_n dX3_reach_41 rfl ?_
            refine X_getr (a := 46) dX3_reach_42 fkX3_22 rfl (k_42 hSh) (r_42_6 hSh) ?_
            refine X_iload_n dX3_reach_45 rfl ?_
            refine X_aload_n dX3_reach_46 rfl ?_
            refine X_getr (a := 46) dX3_reach_47 fkX3_22 rfl (k_42 hSh) (r_42_6 hSh) ?_
            refine X_iload_n dX3_reach_50 rfl ?_
            refine X_aload_n dX3_reach_51 rfl ?_
            refine X_geti dX3_reach_52 fkX3_49 rfl (k_42 hSh) ?_
            rw [hrd]
            refine X_isub dX3_reach_55 ?_
            refine X_topi (pk_sub (a := i) (b := rd) (by omega)) ?_
            refine X_iald (i - rd) dX3_reach_56 (k_46 hSh) rfl (by omega) ?_
            refine X_iast i dX3_reach_57 (k_46 hSh) rfl (by omega) ?_
            refine X_goto 145 dX3_reach_58 (by decide) ?_
            refine X_aload_n dX3_reach_145 rfl ?_
            refine X_iload_n dX3_reach_146 rfl ?_
            refine X_iconst (v := nI 1) dX3_reach_147 (by decide) ?_
            refine X_iadd dX3_reach_148 ?_
            refine X_topi (nI_add i 1) ?_
            refine X_puti dX3_reach_149 fkX3_42 rfl rfl (k_42 hSh) ?_
            refine X_iinc (v := nI (i + 1)) dX3_reach_152 rfl (nI_1 _) (by decide) ?_
            refine X_goto 5 dX3_reach_155 (by decide) ?_
            refine X_L [(2, .int (nI (i + 1))), (0, .ref 42), (1, .int (nI day))] ⟨rfl, rfl, rfl, trivial⟩ ?_
            rw [show rcS P H wh ask 42 i x = _ from if_neg (by rw [hrd]; exact nI_ne0 (by omega) (by omega)), hrd, uN_nI (by omega)] at hn
            exact hn
  · intro x hI
    refine X_iload_n dX3_reach_5 rfl ?_
    refine X_iload_n dX3_reach_6 rfl ?_
    refine X_icmp_gtN (a := e) (b := day) 158 dX3_reach_7 (by decide) (by omega) (by omega) (fun h_9 => ?_) (fun h_9 => ?_)
    · exact X_vret dX3_reach_158 rfl ⟨rfl, rfl, by rw [hI.1], by rw [hI.1]⟩
    · refine X_iload_n dX3_reach_10 rfl ?_
      refine X_sipush (v := nI 200) dX3_reach_11 (by decide) ?_
      refine X_icmp_geN (a := e) (b := 200) 158 dX3_reach_14 (by decide) (by omega) (by omega) (fun h_10 => ?_) (fun h_10 => ?_)
      · exact X_vret dX3_reach_158 rfl ⟨rfl, rfl, by rw [hI.1], by rw [hI.1]⟩
      · exact absurd h_10 (by omega)

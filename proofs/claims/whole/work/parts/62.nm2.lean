abbrev HBt : Type := List Tok × ((Nat → Int32) → Int32)
def okH (H : Nat → HBt) : Prop := ∀ o, o < 8 → (H o).1.length ≤ 150 ∧ ∃ n d, Vx n (H o).1 (H o).2 d ∧ d ≤ 40
def clHb (mi : pMI) (H : Nat → HBt) : Prop := ∀ o, o < 8 → mi 19 o = nI (H o).1.length ∧ ∀ i, i < (H o).1.length → mi 18 (o * 150 + i) = nI (scd ((H o).1.getD i (0, 0)))
def rfHb (mi : pMI) (H : Nat → HBt) : Prop := ∀ o, o < 8 → (mi 129 o = nI 0 ∧ (H o).2 = fun kn => kn 8) ∨ (0 < (H o).1.length ∧ mi 129 o = nI (H o).1.length ∧ ∀ i, i < (H o).1.length → mi (134 + o) (2 * i) = nI ((H o).1.getD i (0, 0)).1 ∧ mi (134 + o) (2 * i + 1) = nI ((H o).1.getD i (0, 0)).2)
theorem Vx_congr {k1 k2 : Nat → Int32} (hk : ∀ k, k < 11 → k1 k = k2 k) : ∀ (n : Nat) (L : List Tok) (f : (Nat → Int32) → Int32) (d : Nat), Vx n L f d → f k1 = f k2
  | 0, _, _, _, h => h.elim
  | n + 1, L, f, d, h => by
    rcases h with ⟨v, hv, _, rfl, hd⟩ | ⟨k, hk2, _, rfl, hd⟩ | ⟨op, A, B, fa, fb, da, db, h1, h2, hA, hB, _, rfl, hda, hdb⟩ | ⟨op, A, B, C, D, fa, fb, fc, fd, da, db, dc, dd, h1, h2, hA, hB, hC, hD, _, rfl, hda, hdb, hdc, hdd⟩
    · rfl
    · exact hk k hk2
    · dsimp only; rw [Vx_congr hk n A fa da hA, Vx_congr hk n B fb db hB]
    · dsimp only; rw [Vx_congr hk n A fa da hA, Vx_congr hk n B fb db hB, Vx_congr hk n C fc dc hC, Vx_congr hk n D fd dd hD]
theorem clH_N (v : Int32) : ∃ n, n < 24 ∧ clH v = nI n := by
  by_cases h : 0 ≤ v
  · by_cases h2 : v ≤ nI 23
    · rw [clH_3 h h2]
      obtain ⟨j, hj, e⟩ := nI_of2 (M := nI 23) (n := 23) rfl (Int32.not_lt.mpr h) h2
      exact ⟨j, by omega, e⟩
    · exact ⟨23, by omega, clH_2 h h2⟩
  · exact ⟨0, by omega, clH_1 h⟩
theorem clH_u (v : Int32) : clH v = nI (uN (clH v)) ∧ uN (clH v) < 24 := by
  obtain ⟨n, hn, e⟩ := clH_N v
  rw [e, uN_nI (by omega)]; exact ⟨rfl, hn⟩
def nmS (t w hv : Nat) (H : Nat → HBt) (b : Nat) (m : pMI) : pMI :=
  (fun m2 : pMI => up2 (up2 (runL 21 (m2 20) (fun v => !decide (v = 0)) (H (uN (m w b))).1 (m2, 0)).1 17 4 (nI 0)) hv b (clH ((H (uN (m w b))).2 (m2 20)))) (stG (stO m (m (t + 1) (b * 8 + 0)) (g0 (m (t + 1) (b * 8 + 5))) (m (t + 1) (b * 8 + 2)) (g0 (m (t + 1) (b * 8 + 6)))) b)
theorem stG_row {m : pMI} {b i : Nat} (h : i ≠ 20) : stG m b i = m i := by unfold stG; rw [up2_row h, up2_row h]
theorem stO_row {m : pMI} {a c l o : Int32} {i : Nat} (h : i ≠ 20) : stO m a c l o i = m i := by unfold stO; rw [up2_row h, up2_row h, up2_row h, up2_row h]
theorem stC_row {m : pMI} {f l d : Int32} {i : Nat} (h : i ≠ 20) : stC m f l d i = m i := by unfold stC; rw [up2_row h, up2_row h, up2_row h, up2_row h, up2_row h]
theorem run_row {R : Nat} {kn : Nat → Int32} {cnd : Int32 → Bool} {i : Nat} (hi : i ≠ R) : ∀ (L : List Tok) (s : pMI × Nat), (runL R kn cnd L s).1 i = s.1 i
  | [], _ => rfl
  | t :: L, s => (run_row hi L (tkM R kn cnd t s)).trans (tk_row hi)
theorem nmS_row {t w hv b : Nat} {H : Nat → HBt} {m : pMI} {i : Nat} (h : i ≠ 20 ∧ i ≠ 21 ∧ i ≠ 17 ∧ i ≠ hv) : nmS t w hv H b m i = m i := by
  unfold nmS
  dsimp only
  rw [up2_row h.2.2.2, up2_row h.2.2.1, run_row h.2.1]
  dsimp only
  rw [stG_row h.1, stO_row h.1]
theorem nmS_17 {t w hv b : Nat} {H : Nat → HBt} {m : pMI} {j : Nat} (h : 17 ≠ hv) (hj : j ≠ 4) : nmS t w hv H b m 17 j = m 17 j := by
  unfold nmS
  dsimp only
  rw [up2_row h, up2_n hj, run_row (by omega)]
  dsimp only
  rw [stG_row (by omega), stO_row (by omega)]
/-- what stays as it was while mornings are asked for -/
def frN (hv : Nat) (m x : pMI) : Prop := (∀ i, i ≠ 20 → i ≠ 21 → i ≠ 17 → i ≠ hv → x i = m i) ∧ (∀ j, j ≠ 4 → x 17 j = m 17 j)
theorem frN_s {t w hv b : Nat} {H : Nat → HBt} {m x : pMI} (hh : 17 ≠ hv) (h : frN hv m x) : frN hv m (nmS t w hv H b x) :=
  ⟨fun i h1 h2 h3 h4 => (nmS_row ⟨h1, h2, h3, h4⟩).trans (h.1 i h1 h2 h3 h4), fun j hj => (nmS_17 hh hj).trans (h.2 j hj)⟩
theorem clHb_fr {hv : Nat} {H : Nat → HBt} {m x : pMI} (hh : hv ≠ 18 ∧ hv ≠ 19) (h : frN hv m x) (hb : clHb m H) : clHb x H := fun o ho => by
  rw [h.1 18 (by omega) (by omega) (by omega) (by omega), h.1 19 (by omega) (by omega) (by omega) (by omega)]; exact hb o ho
theorem clHb_row {H : Nat → HBt} {m x : pMI} (h1 : x 18 = m 18) (h2 : x 19 = m 19) (hb : clHb m H) : clHb x H := fun o ho => by rw [h1, h2]; exact hb o ho
set_option maxRecDepth 100000 in
set_option maxHeartbeats 4000000 in
theorem c_nextMorning (Γ : pTG) (g : pGG) (mi : pMI) (ml : pML) (hSh : Sh g) (t : Nat) (hC : ShC g t) (nG : Nat) (hG : mi 3 10 = nI nG) (h8 : nG ≤ 8) (cm : Nat → Nat) (hcm : ∀ b, b < nG → mi (t + 1) (b * 8 + 0) = nI (cm b) ∧ cm b < 24) (ht : 32 ≤ t) (w hv : Nat) (hkw : g.2.1 w = (20, 8)) (hkv : g.2.1 hv = (20, 8)) (hdis : 22 ≤ w ∧ 22 ≤ hv ∧ w ≠ hv ∧ (hv < t ∨ t + 9 < hv)) (wh : Nat → Nat) (hw : ∀ b, b < nG → mi w b = nI (wh b) ∧ wh b < 8) (H : Nat → HBt) (hH : okH H) (hHb : clHb mi H) (dd : Int32) : cV Γ 4 mX6_nextMorning [.ref 17, .ref t, .ref w, .int dd, .ref hv] g mi ml (lpS (nmS t w hv H) 0 nG (stC mi (nI (fcN cm nG)) (mi t 14) dd)) ml := by
  refine cV_of (by decide +kernel) (Nat.le_of_ble_eq_true rfl) ?_
  refine X_aload_n dX6_nextMorning_0 rfl ?_
  refine X_aload_n dX6_nextMorning_1 rfl ?_
  refine X_getr (a := 3) dX6_nextMorning_2 fkX6_58 rfl (sck_0 hC) (scr_0 hC) ?_
  refine X_aload_n dX6_nextMorning_5 rfl ?_
  refine X_callVI dX6_nextMorning_6 mkX6_64 (sck_0 hC) (c_firstCame Γ g mi ml hSh t hC nG hG h8 cm hcm) rfl rfl (by decide) (Nat.le_of_ble_eq_true rfl) ?_
  refine X_aload_n dX6_nextMorning_9 rfl ?_
  refine X_geti dX6_nextMorning_10 fkX6_68 rfl (sck_0 hC) ?_
  refine X_iload_n dX6_nextMorning_13 rfl ?_
  refine X_callVV dX6_nextMorning_14 mkX6_71 (k_17 hSh) (c_setCommon Γ g mi ml hSh (nI (fcN cm nG)) (mi t 14) dd) rfl rfl (by decide) (Nat.le_of_ble_eq_true rfl) ?_
  refine X_iconst (v := nI 0) dX6_nextMorning_17 (by decide) ?_
  refine X_istore dX6_nextMorning_18 (by decide) ?_
  refine X_L [(5, .int (nI 0)), (0, .ref 17), (1, .ref t), (2, .ref w), (3, .int dd), (4, .ref hv)] ⟨rfl, rfl, rfl, rfl, rfl, rfl, trivial⟩ ?_
  refine X_for2 (σ := pMI) 20 (fun i x => [(5, .int (nI i)), (0, .ref 17), (1, .ref t), (2, .ref w), (3, .int dd), (4, .ref hv)]) (fun x => x) (fun x => ml) (fun i x => nmS t w hv H i x) (fun i x => frN hv mi x ∧ x = lpS (nmS t w hv H) 0 i (stC mi (nI (fcN cm nG)) (mi t 14) dd)) nG ?_ nG 0 (stC mi (nI (fcN cm nG)) (mi t 14) dd) (by omega) ⟨⟨fun q h1 _ _ _ => stC_row h1, fun j _ => by rw [stC_row (by omega)]⟩, rfl⟩ ?_
  · intro i x hi hI
    have hG3 : x 3 10 = nI nG := by rw [hI.1.1 3 (by omega) (by omega) (by omega) (by omega)]; exact hG
    have hHx := clHb_fr (by omega) hI.1 hHb
    obtain ⟨hwi0, hwl⟩ := hw i hi
    have hwi : x w i = nI (wh i) := by rw [hI.1.1 w (by omega) (by omega) (by omega) (by omega)]; exact hwi0
    have hw9 : ∀ {a c l o : Int32} {b : Nat}, (stG (stO x a c l o) b) w i = nI (wh i) := fun {a c l o b} => by rw [stG_row (by omega), stO_row (by omega)]; exact hwi
    refine ⟨⟨frN_s (by omega) hI.1, by rw [lpS_snoc, ← hI.2, Nat.zero_add]⟩, fun hn => ?_⟩
    refine X_iload dX6_nextMorning_20 rfl ?_
    refine X_aload_n dX6_nextMorning_22 rfl ?_
    refine X_getr (a := 3) dX6_nextMorning_23 fkX6_58 rfl (sck_0 hC) (scr_0 hC) ?_
    refine X_geti dX6_nextMorning_26 fkX6_49 rfl (k_3 hSh) ?_
    rw [hG3]
    refine X_icmp_geN (a := i) (b := nG) 133 dX6_nextMorning_29 (by decide) (by omega) (by omega) (fun h_1 => ?_) (fun h_1 => ?_)
    · exact absurd hi (by omega)
    · refine X_iload dX6_nextMorning_32 rfl ?_
      refine X_bipush (v := nI 8) dX6_nextMorning_34 (by decide) ?_
      refine X_imul dX6_nextMorning_36 ?_
      refine X_topi (pk_mul i 8) ?_
      refine X_istore dX6_nextMorning_37 (by decide) ?_
      refine X_aload_n dX6_nextMorning_39 rfl ?_
      refine X_getr (a := t + 1) dX6_nextMorning_40 fkX6_75 rfl (sck_0 hC) (scr_1 hC) ?_
      refine X_iload dX6_nextMorning_43 rfl ?_
      refine X_iconst (v := nI 5) dX6_nextMorning_45 (by decide) ?_
      refine X_iadd dX6_nextMorning_46 ?_
      refine X_topi (nI_add (i * 8) 5) ?_
      refine X_iald ((i * 8) + 5) dX6_nextMorning_47 (sck_1 hC) rfl (by omega) ?_
      refine X_join (S := []) 56 (fun v => v = g0 (x (t + 1) ((i * 8) + 5))) (fun vJ hvJ => ?_) (fun hJ_2 => ?_)
      · rw [hvJ]
        refine X_istore dX6_nextMorning_56 (by decide) ?_
        refine X_aload_n dX6_nextMorning_58 rfl ?_
        refine X_getr (a := t + 1) dX6_nextMorning_59 fkX6_75 rfl (sck_0 hC) (scr_1 hC) ?_
        refine X_iload dX6_nextMorning_62 rfl ?_
        refine X_bipush (v := nI 6) dX6_nextMorning_64 (by decide) ?_
        refine X_iadd dX6_nextMorning_66 ?_
        refine X_topi (nI_add (i * 8) 6) ?_
        refine X_iald ((i * 8) + 6) dX6_nextMorning_67 (sck_1 hC) rfl (by omega) ?_
        refine X_join (S := []) 76 (fun v => v = g0 (x (t + 1) ((i * 8) + 6))) (fun vJ hvJ => ?_) (fun hJ_3 => ?_)
        · rw [hvJ]
          refine X_istore dX6_nextMorning_76 (by decide) ?_
          refine X_aload_n dX6_nextMorning_78 rfl ?_
          refine X_aload_n dX6_nextMorning_79 rfl ?_
          refine X_getr (a := t + 1) dX6_nextMorning_80 fkX6_75 rfl (sck_0 hC) (scr_1 hC) ?_
          refine X_iload dX6_nextMorning_83 rfl ?_
          refine X_iconst (v := nI 0) dX6_nextMorning_85 (by decide) ?_
          refine X_iadd dX6_nextMorning_86 ?_
          refine X_topi (nI_add (i * 8) 0) ?_
          refine X_iald ((i * 8) + 0) dX6_nextMorning_87 (sck_1 hC) rfl (by omega) ?_
          refine X_iload dX6_nextMorning_88 rfl ?_
          refine X_aload_n dX6_nextMorning_90 rfl ?_
          refine X_getr (a := t + 1) dX6_nextMorning_91 fkX6_75 rfl (sck_0 hC) (scr_1 hC) ?_
          refine X_iload dX6_nextMorning_94 rfl ?_
          refine X_iconst (v := nI 2) dX6_nextMorning_96 (by decide) ?_
          refine X_iadd dX6_nextMorning_97 ?_
          refine X_topi (nI_add (i * 8) 2) ?_
          refine X_iald ((i * 8) + 2) dX6_nextMorning_98 (sck_1 hC) rfl (by omega) ?_
          refine X_iload dX6_nextMorning_99 rfl ?_
          refine X_callVV dX6_nextMorning_101 mkX6_78 (k_17 hSh) (c_setOwn Γ g x ml hSh (x (t + 1) ((i * 8) + 0)) (g0 (x (t + 1) ((i * 8) + 5))) (x (t + 1) ((i * 8) + 2)) (g0 (x (t + 1) ((i * 8) + 6)))) rfl rfl (by decide) (Nat.le_of_ble_eq_true rfl) ?_
          refine X_aload_n dX6_nextMorning_104 rfl ?_
          refine X_aload_n dX6_nextMorning_105 rfl ?_
          refine X_getr (a := 3) dX6_nextMorning_106 fkX6_58 rfl (sck_0 hC) (scr_0 hC) ?_
          refine X_iload dX6_nextMorning_109 rfl ?_
          refine X_callVV dX6_nextMorning_111 mkX6_82 (k_17 hSh) (c_setGuest Γ g (stO x (x (t + 1) ((i * 8) + 0)) (g0 (x (t + 1) ((i * 8) + 5))) (x (t + 1) ((i * 8) + 2)) (g0 (x (t + 1) ((i * 8) + 6)))) ml hSh i (by omega)) rfl rfl (by decide) (Nat.le_of_ble_eq_true rfl) ?_
          refine X_aload dX6_nextMorning_114 rfl ?_
          refine X_iload dX6_nextMorning_116 rfl ?_
          refine X_aload_n dX6_nextMorning_118 rfl ?_
          refine X_aload_n dX6_nextMorning_119 rfl ?_
          refine X_iload dX6_nextMorning_120 rfl ?_
          refine X_iald i dX6_nextMorning_122 hkw rfl (by omega) ?_
          rw [hw9]
          obtain ⟨hl9, n9, d9, hV9, hd9⟩ := hH (wh i) hwl
          refine X_callVI dX6_nextMorning_123 mkX6_86 (k_17 hSh) (c_comes Γ g (stG (stO x (x (t + 1) ((i * 8) + 0)) (g0 (x (t + 1) ((i * 8) + 5))) (x (t + 1) ((i * 8) + 2)) (g0 (x (t + 1) ((i * 8) + 6)))) i) ml hSh (wh i) hwl (H (wh i)).1 n9 d9 (H (wh i)).2 hV9 hd9 hl9 (clHb_row (by rw [stG_row (by omega), stO_row (by omega)]) (by rw [stG_row (by omega), stO_row (by omega)]) hHx (wh i) hwl).1 (clHb_row (by rw [stG_row (by omega), stO_row (by omega)]) (by rw [stG_row (by omega), stO_row (by omega)]) hHx (wh i) hwl).2) rfl rfl (by decide) (Nat.le_of_ble_eq_true rfl) ?_
          refine X_iast i dX6_nextMorning_126 hkv rfl (by omega) ?_
          refine X_iinc (v := nI (i + 1)) dX6_nextMorning_127 rfl (nI_1 _) (by decide) ?_
          refine X_goto 20 dX6_nextMorning_130 (by decide) ?_
          refine X_L [(5, .int (nI (i + 1))), (0, .ref 17), (1, .ref t), (2, .ref w), (3, .int dd), (4, .ref hv)] ⟨rfl, rfl, rfl, rfl, rfl, rfl, trivial⟩ ?_
          rw [show nmS t w hv H i x = (up2 (up2 (runL 21 ((stG (stO x (x (t + 1) ((i * 8) + 0)) (g0 (x (t + 1) ((i * 8) + 5))) (x (t + 1) ((i * 8) + 2)) (g0 (x (t + 1) ((i * 8) + 6)))) i) 20) (fun v => !decide (v = 0)) (H (wh i)).1 ((stG (stO x (x (t + 1) ((i * 8) + 0)) (g0 (x (t + 1) ((i * 8) + 5))) (x (t + 1) ((i * 8) + 2)) (g0 (x (t + 1) ((i * 8) + 6)))) i), 0)).1 17 4 (nI 0)) hv i (clH ((H (wh i)).2 ((stG (stO x (x (t + 1) ((i * 8) + 0)) (g0 (x (t + 1) ((i * 8) + 5))) (x (t + 1) ((i * 8) + 2)) (g0 (x (t + 1) ((i * 8) + 6)))) i) 20)))) from by unfold nmS; rw [hwi, uN_nI (by omega)]] at hn
          exact hn
        · refine X_if_le 75 dX6_nextMorning_68 (by decide) (fun h_4 => ?_) (fun h_4 => ?_)
          · refine X_iconst (v := nI 0) dX6_nextMorning_75 (by decide) ?_
            exact hJ_3 _ (by unfold g0; first | rw [if_pos (by assumption)] | rw [if_neg (by assumption)])
          · refine X_iconst (v := nI 1) dX6_nextMorning_71 (by decide) ?_
            refine X_goto 76 dX6_nextMorning_72 (by decide) ?_
            exact hJ_3 _ (by unfold g0; first | rw [if_pos (by assumption)] | rw [if_neg (by assumption)])
      · refine X_if_le 55 dX6_nextMorning_48 (by decide) (fun h_5 => ?_) (fun h_5 => ?_)
        · refine X_iconst (v := nI 0) dX6_nextMorning_55 (by decide) ?_
          exact hJ_2 _ (by unfold g0; first | rw [if_pos (by assumption)] | rw [if_neg (by assumption)])
        · refine X_iconst (v := nI 1) dX6_nextMorning_51 (by decide) ?_
          refine X_goto 56 dX6_nextMorning_52 (by decide) ?_
          exact hJ_2 _ (by unfold g0; first | rw [if_pos (by assumption)] | rw [if_neg (by assumption)])
  · intro x hI
    have hG3 : x 3 10 = nI nG := by rw [hI.1.1 3 (by omega) (by omega) (by omega) (by omega)]; exact hG
    refine X_iload dX6_nextMorning_20 rfl ?_
    refine X_aload_n dX6_nextMorning_22 rfl ?_
    refine X_getr (a := 3) dX6_nextMorning_23 fkX6_58 rfl (sck_0 hC) (scr_0 hC) ?_
    refine X_geti dX6_nextMorning_26 fkX6_49 rfl (k_3 hSh) ?_
    rw [hG3]
    refine X_icmp_geN (a := nG) (b := nG) 133 dX6_nextMorning_29 (by decide) (by omega) (by omega) (fun h_6 => ?_) (fun h_6 => ?_)
    · exact X_vret dX6_nextMorning_133 rfl ⟨rfl, rfl, hI.2, rfl⟩
    · exact absurd h_6 (by omega)

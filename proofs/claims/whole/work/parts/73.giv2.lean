def vP (P : PD) (b c : Nat) : Int32 := sW (nI (P.2.2.2.2.2.1 c 0)) (nI (P.2.2.2.2.2.1 c 1)) (P.2.2.2.2.2.2 b 1) (P.2.2.2.2.2.2 b 2)
/-- a loop's counter from n less 1 down -/
def dnI (n i : Nat) : Int32 := if i < n then nI (n - 1 - i) else -1
theorem dn_0 {n : Nat} : nI n - nI 1 = dnI n 0 := by
  unfold dnI
  by_cases h : 0 < n
  · rw [if_pos h, pk_sub (by omega)]; rfl
  · rw [if_neg h, show n = 0 by omega]; rfl
theorem dn_s {n i : Nat} (h : i < n) : nI (n - 1 - i) + Int32.ofInt (-1) = dnI n (i + 1) := by
  unfold dnI
  by_cases h2 : i + 1 < n
  · rw [if_pos h2]
    have := nI_dk (n - 1 - i) 1 (by omega)
    rw [show n - 1 - (i + 1) = n - 1 - i - 1 by omega]; exact this
  · rw [if_neg h2, show n - 1 - i = 0 by omega]; rfl
theorem dn_i {n i : Nat} (h : i < n) : dnI n i = nI (n - 1 - i) := if_pos h
theorem dn_e {n : Nat} : dnI n n = -1 := if_neg (by omega)
def fgP (V : Nat → Int32) (R : Nat → Int32) (due : Int32) (gone nC : Nat) : Option Nat := if R gone = due then none else fE (fun c => !gone.testBit c && decide (V c + R (gone ||| 2 ^ c) = due)) nC
theorem fgP_lt {V R : Nat → Int32} {due : Int32} {gone nC c : Nat} (h : fgP V R due gone nC = some c) : c < nC := by
  unfold fgP at h
  split at h
  · cases h
  · exact (fE_i h).1
/-- what a guest gets, what is gone ahead of him -/
def gift (P : PD) (b gone : Nat) : Option Nat := fgP (vP P b) (gtR (vP P) P.2.1 P.1 (P.2.1 - 1 - b)) (gtR (vP P) P.2.1 P.1 (P.2.1 - b) gone) gone P.1
def gnD (P : PD) : Nat → Nat
  | 0 => 0
  | b + 1 => match gift P b (gnD P b) with
    | none => gnD P b
    | some c => gnD P b ||| 2 ^ c
theorem gnD_lt (P : PD) : ∀ b, gnD P b < 2 ^ P.1
  | 0 => Nat.pow_pos (by omega)
  | b + 1 => by
    unfold gnD
    cases h : gift P b (gnD P b) with
    | none => exact gnD_lt P b
    | some c => exact or_lt (gnD_lt P b) (fgP_lt h)
def frG (m x : pMI) : Prop := (∀ i, i ≠ 77 → i ≠ 78 → i ≠ 79 → i ≠ 80 → x i = m i) ∧ (∀ j, j < 4 → x 77 j = m 77 j)
theorem frG_r {m : pMI} : frG m m := ⟨fun _ _ _ _ _ => rfl, fun _ _ => rfl⟩
theorem frG_u {m x : pMI} {a j : Nat} {v : Int32} (h : frG m x) (ha : a = 78 ∨ a = 79 ∨ a = 80 ∨ (a = 77 ∧ 4 ≤ j)) : frG m (up2 x a j v) :=
  ⟨fun i h1 h2 h3 h4 => by rw [up2_row (by omega)]; exact h.1 i h1 h2 h3 h4, fun q hq => by rw [up2_nn (by omega)]; exact h.2 q hq⟩
theorem frG_t {a b c : pMI} (h1 : frG a b) (h2 : frG b c) : frG a c := ⟨fun i p q r s => (h2.1 i p q r s).trans (h1.1 i p q r s), fun j hj => (h2.2 j hj).trans (h1.2 j hj)⟩
theorem frG_cl {P : PD} {m x : pMI} (h : frG m x) (hc : clP m P) : clP x P := clP_row (fun i h1 h2 => h.1 i (by omega) (by omega) (by omega) (by omega)) hc
/-- the table's rows for the last j guests -/
def tbG (P : PD) (m : pMI) (j : Nat) : Prop := ∀ k, k ≤ j → ∀ q, q < 2 ^ P.1 → m 79 ((P.2.1 - k) * 256 + q) = gtR (vP P) P.2.1 P.1 k q
def vlG (P : PD) (m : pMI) : Prop := ∀ b, b < P.2.1 → ∀ c, c < P.1 → m 78 (b * 9 + c) = vP P b c
def GOK (P : PD) (m : pMI) : Prop := vlG P m ∧ m 77 5 = gtR (vP P) P.2.1 P.1 P.2.1 0 ∧ ∀ b, b < P.2.1 → m 80 b = oI (gift P b (gnD P b))
set_option maxRecDepth 100000 in
set_option maxHeartbeats 4000000 in
theorem c_firstGift (Γ : pTG) (g : pGG) (mi : pMI) (ml : pML) (hSh : Sh g) (nC : Nat) (hC : mi 3 9 = nI nC) (hC8 : nC ≤ 8) (b gn : Nat) (hb : b < 8) (hgn : gn < 2 ^ nC) : cI Γ 1 mX4_firstGift [.ref 77, .int (nI b), .int (nI gn)] g mi ml (oI (fgP (fun c => mi 78 (b * 9 + c)) (fun k => mi 79 ((b + 1) * 256 + k)) (mi 79 (b * 256 + gn)) gn nC)) mi := by
  refine cI_of (by decide +kernel) (Nat.le_of_ble_eq_true rfl) ?_
  have h256 := p8 hC8
  refine X_aload_n dX4_firstGift_0 rfl ?_
  refine X_getr (a := 79) dX4_firstGift_1 fkX4_15 rfl (k_77 hSh) (r_77_2 hSh) ?_
  refine X_iload_n dX4_firstGift_4 rfl ?_
  refine X_sipush (v := nI 256) dX4_firstGift_5 (by decide) ?_
  refine X_imul dX4_firstGift_8 ?_
  refine X_topi (pk_mul b 256) ?_
  refine X_iload_n dX4_firstGift_9 rfl ?_
  refine X_iadd dX4_firstGift_10 ?_
  refine X_topi (nI_add (b * 256) gn) ?_
  refine X_iald ((b * 256) + gn) dX4_firstGift_11 (k_79 hSh) rfl (by first | omega | (have := or_lt hgn (show i < nC by omega); omega)) ?_
  refine X_istore_n dX4_firstGift_12 (by decide) ?_
  refine X_iload_n dX4_firstGift_13 rfl ?_
  refine X_iconst (v := nI 1) dX4_firstGift_14 (by decide) ?_
  refine X_iadd dX4_firstGift_15 ?_
  refine X_topi (nI_add b 1) ?_
  refine X_sipush (v := nI 256) dX4_firstGift_16 (by decide) ?_
  refine X_imul dX4_firstGift_19 ?_
  refine X_topi (pk_mul (b + 1) 256) ?_
  refine X_istore dX4_firstGift_20 (by decide) ?_
  refine X_aload_n dX4_firstGift_22 rfl ?_
  refine X_getr (a := 79) dX4_firstGift_23 fkX4_15 rfl (k_77 hSh) (r_77_2 hSh) ?_
  refine X_iload dX4_firstGift_26 rfl ?_
  refine X_iload_n dX4_firstGift_28 rfl ?_
  refine X_iadd dX4_firstGift_29 ?_
  refine X_topi (nI_add ((b + 1) * 256) gn) ?_
  refine X_iald (((b + 1) * 256) + gn) dX4_firstGift_30 (k_79 hSh) rfl (by first | omega | (have := or_lt hgn (show i < nC by omega); omega)) ?_
  refine X_iload_n dX4_firstGift_31 rfl ?_
  refine X_icmp_ne 37 dX4_firstGift_32 (by decide) (fun h_1 => ?_) (fun h_1 => ?_)
  · refine X_iconst (v := nI 0) dX4_firstGift_37 (by decide) ?_
    refine X_istore dX4_firstGift_38 (by decide) ?_
    refine X_L [(5, .int (nI 0)), (4, .int (nI ((b + 1) * 256))), (3, .int (mi 79 ((b * 256) + gn))), (0, .ref 77), (1, .int (nI b)), (2, .int (nI gn))] ⟨rfl, rfl, rfl, rfl, rfl, rfl, trivial⟩ ?_
    refine X_forE 40 (fun i => [(5, .int (nI i)), (4, .int (nI ((b + 1) * 256))), (3, .int (mi 79 (b * 256 + gn))), (0, .ref 77), (1, .int (nI b)), (2, .int (nI gn))]) (fun c => !gn.testBit c && decide ((fun c => mi 78 (b * 9 + c)) c + (fun k => mi 79 ((b + 1) * 256 + k)) (gn ||| 2 ^ c) = (mi 79 (b * 256 + gn)))) nC ?_ ?_ nC 0 (by omega) (fun b hb => absurd hb (by omega))
    · intro i hi h0
      refine ⟨fun hp => ?_, fun hp hn => ?_⟩
      · have hp2 : gn.testBit i = false ∧ mi 78 (b * 9 + i) + mi 79 ((b + 1) * 256 + (gn ||| 2 ^ i)) = mi 79 (b * 256 + gn) := by simpa using hp
        refine X_iload dX4_firstGift_40 rfl ?_
        refine X_aload_n dX4_firstGift_42 rfl ?_
        refine X_getr (a := 3) dX4_firstGift_43 fkX4_21 rfl (k_77 hSh) (r_77_0 hSh) ?_
        refine X_geti dX4_firstGift_46 fkX4_35 rfl (k_3 hSh) ?_
        rw [hC]
        refine X_icmp_geN (a := i) (b := nC) 101 dX4_firstGift_49 (by decide) (by first | omega | (have := or_lt hgn (show i < nC by omega); omega)) (by first | omega | (have := or_lt hgn (show i < nC by omega); omega)) (fun h_2 => ?_) (fun h_2 => ?_)
        · exact absurd hi (by omega)
        · refine X_iload_n dX4_firstGift_52 rfl ?_
          refine X_iload dX4_firstGift_53 rfl ?_
          refine X_ishr dX4_firstGift_55 ?_
          refine X_iconst (v := nI 1) dX4_firstGift_56 (by decide) ?_
          refine X_iand dX4_firstGift_57 ?_
          refine X_topi (bit_ask (k := i) (by omega)) ?_
          refine X_topi (show _ = bI (gn.testBit i) by rw [nb_ask gn (by omega) i (by omega)]) ?_
          refine X_topi (show bI (gn.testBit i) = bI false by rw [hp2.1]) ?_
          refine X_if_ne 95 dX4_firstGift_58 (by decide) (fun h_3 => ?_) (fun h_3 => ?_)
          · exact absurd rfl h_3
          · refine X_aload_n dX4_firstGift_61 rfl ?_
            refine X_getr (a := 78) dX4_firstGift_62 fkX4_11 rfl (k_77 hSh) (r_77_1 hSh) ?_
            refine X_iload_n dX4_firstGift_65 rfl ?_
            refine X_bipush (v := nI 9) dX4_firstGift_66 (by decide) ?_
            refine X_imul dX4_firstGift_68 ?_
            refine X_topi (pk_mul b 9) ?_
            refine X_iload dX4_firstGift_69 rfl ?_
            refine X_iadd dX4_firstGift_71 ?_
            refine X_topi (nI_add (b * 9) i) ?_
            refine X_iald ((b * 9) + i) dX4_firstGift_72 (k_78 hSh) rfl (by first | omega | (have := or_lt hgn (show i < nC by omega); omega)) ?_
            refine X_aload_n dX4_firstGift_73 rfl ?_
            refine X_getr (a := 79) dX4_firstGift_74 fkX4_15 rfl (k_77 hSh) (r_77_2 hSh) ?_
            refine X_iload dX4_firstGift_77 rfl ?_
            refine X_iload_n dX4_firstGift_79 rfl ?_
            refine X_iconst (v := nI 1) dX4_firstGift_80 (by decide) ?_
            refine X_iload dX4_firstGift_81 rfl ?_
            refine X_ishl dX4_firstGift_83 ?_
            refine X_ior dX4_firstGift_84 ?_
            refine X_topi (nb_or gn (by omega) i (by omega)) ?_
            refine X_iadd dX4_firstGift_85 ?_
            refine X_topi (nI_add ((b + 1) * 256) (gn ||| 2 ^ i)) ?_
            refine X_iald (((b + 1) * 256) + (gn ||| 2 ^ i)) dX4_firstGift_86 (k_79 hSh) rfl (by first | omega | (have := or_lt hgn (show i < nC by omega); omega)) ?_
            refine X_iadd dX4_firstGift_87 ?_
            refine X_iload_n dX4_firstGift_88 rfl ?_
            refine X_icmp_ne 95 dX4_firstGift_89 (by decide) (fun h_4 => ?_) (fun h_4 => ?_)
            · exact absurd hp2.2 h_4
            · refine X_iload dX4_firstGift_92 rfl ?_
              exact X_iret dX4_firstGift_94 rfl ⟨by unfold fgP; rw [if_neg (by assumption), fE_s h0 hp hi]; rfl, rfl, rfl, rfl⟩
      · have hp2 : gn.testBit i = false → ¬ mi 78 (b * 9 + i) + mi 79 ((b + 1) * 256 + (gn ||| 2 ^ i)) = mi 79 (b * 256 + gn) := by simpa using hp
        refine X_iload dX4_firstGift_40 rfl ?_
        refine X_aload_n dX4_firstGift_42 rfl ?_
        refine X_getr (a := 3) dX4_firstGift_43 fkX4_21 rfl (k_77 hSh) (r_77_0 hSh) ?_
        refine X_geti dX4_firstGift_46 fkX4_35 rfl (k_3 hSh) ?_
        rw [hC]
        refine X_icmp_geN (a := i) (b := nC) 101 dX4_firstGift_49 (by decide) (by first | omega | (have := or_lt hgn (show i < nC by omega); omega)) (by first | omega | (have := or_lt hgn (show i < nC by omega); omega)) (fun h_5 => ?_) (fun h_5 => ?_)
        · exact absurd hi (by omega)
        · refine X_iload_n dX4_firstGift_52 rfl ?_
          refine X_iload dX4_firstGift_53 rfl ?_
          refine X_ishr dX4_firstGift_55 ?_
          refine X_iconst (v := nI 1) dX4_firstGift_56 (by decide) ?_
          refine X_iand dX4_firstGift_57 ?_
          refine X_topi (bit_ask (k := i) (by omega)) ?_
          refine X_topi (show _ = bI (gn.testBit i) by rw [nb_ask gn (by omega) i (by omega)]) ?_
          cases htb : gn.testBit i with
          | false =>
            refine X_if_ne 95 dX4_firstGift_58 (by decide) (fun h_6 => ?_) (fun h_6 => ?_)
            · exact absurd rfl h_6
            · refine X_aload_n dX4_firstGift_61 rfl ?_
              refine X_getr (a := 78) dX4_firstGift_62 fkX4_11 rfl (k_77 hSh) (r_77_1 hSh) ?_
              refine X_iload_n dX4_firstGift_65 rfl ?_
              refine X_bipush (v := nI 9) dX4_firstGift_66 (by decide) ?_
              refine X_imul dX4_firstGift_68 ?_
              refine X_topi (pk_mul b 9) ?_
              refine X_iload dX4_firstGift_69 rfl ?_
              refine X_iadd dX4_firstGift_71 ?_
              refine X_topi (nI_add (b * 9) i) ?_
              refine X_iald ((b * 9) + i) dX4_firstGift_72 (k_78 hSh) rfl (by first | omega | (have := or_lt hgn (show i < nC by omega); omega)) ?_
              refine X_aload_n dX4_firstGift_73 rfl ?_
              refine X_getr (a := 79) dX4_firstGift_74 fkX4_15 rfl (k_77 hSh) (r_77_2 hSh) ?_
              refine X_iload dX4_firstGift_77 rfl ?_
              refine X_iload_n dX4_firstGift_79 rfl ?_
              refine X_iconst (v := nI 1) dX4_firstGift_80 (by decide) ?_
              refine X_iload dX4_firstGift_81 rfl ?_
              refine X_ishl dX4_firstGift_83 ?_
              refine X_ior dX4_firstGift_84 ?_
              refine X_topi (nb_or gn (by omega) i (by omega)) ?_
              refine X_iadd dX4_firstGift_85 ?_
              refine X_topi (nI_add ((b + 1) * 256) (gn ||| 2 ^ i)) ?_
              refine X_iald (((b + 1) * 256) + (gn ||| 2 ^ i)) dX4_firstGift_86 (k_79 hSh) rfl (by first | omega | (have := or_lt hgn (show i < nC by omega); omega)) ?_
              refine X_iadd dX4_firstGift_87 ?_
              refine X_iload_n dX4_firstGift_88 rfl ?_
              refine X_icmp_ne 95 dX4_firstGift_89 (by decide) (fun h_7 => ?_) (fun h_7 => ?_)
              · refine X_iinc (v := nI (i + 1)) dX4_firstGift_95 rfl (nI_1 _) (by decide) ?_
                refine X_goto 40 dX4_firstGift_98 (by decide) ?_
                refine X_L [(5, .int (nI (i + 1))), (4, .int (nI ((b + 1) * 256))), (3, .int (mi 79 (b * 256 + gn))), (0, .ref 77), (1, .int (nI b)), (2, .int (nI gn))] ⟨rfl, rfl, rfl, rfl, rfl, rfl, trivial⟩ ?_
                exact hn
              · exact absurd h_7 (hp2 htb)
          | true =>
            refine X_if_ne 95 dX4_firstGift_58 (by decide) (fun h_8 => ?_) (fun h_8 => ?_)
            · refine X_iinc (v := nI (i + 1)) dX4_firstGift_95 rfl (nI_1 _) (by decide) ?_
              refine X_goto 40 dX4_firstGift_98 (by decide) ?_
              refine X_L [(5, .int (nI (i + 1))), (4, .int (nI ((b + 1) * 256))), (3, .int (mi 79 (b * 256 + gn))), (0, .ref 77), (1, .int (nI b)), (2, .int (nI gn))] ⟨rfl, rfl, rfl, rfl, rfl, rfl, trivial⟩ ?_
              exact hn
            · exact absurd h_8 (by decide)
    · intro h0
      refine X_iload dX4_firstGift_40 rfl ?_
      refine X_aload_n dX4_firstGift_42 rfl ?_
      refine X_getr (a := 3) dX4_firstGift_43 fkX4_21 rfl (k_77 hSh) (r_77_0 hSh) ?_
      refine X_geti dX4_firstGift_46 fkX4_35 rfl (k_3 hSh) ?_
      rw [hC]
      refine X_icmp_geN (a := nC) (b := nC) 101 dX4_firstGift_49 (by decide) (by first | omega | (have := or_lt hgn (show i < nC by omega); omega)) (by first | omega | (have := or_lt hgn (show i < nC by omega); omega)) (fun h_9 => ?_) (fun h_9 => ?_)
      · refine X_iconst (v := -1) dX4_firstGift_101 (by decide) ?_
        exact X_iret dX4_firstGift_102 rfl ⟨by unfold fgP; rw [if_neg (by assumption), fE_n.mpr h0]; rfl, rfl, rfl, rfl⟩
      · exact absurd h_9 (by omega)
  · refine X_iconst (v := -1) dX4_firstGift_35 (by decide) ?_
    exact X_iret dX4_firstGift_36 rfl ⟨by unfold fgP; rw [if_pos (by assumption)]; rfl, rfl, rfl, rfl⟩
theorem fE_eq {p q : Nat → Bool} : ∀ {n : Nat}, (∀ b, b < n → p b = q b) → fE p n = fE q n
  | 0, _ => rfl
  | n + 1, h => by unfold fE; rw [fE_eq (fun b hb => h b (by omega)), h n (by omega)]
theorem fgP_eq {V W R S : Nat → Int32} {due due' : Int32} {gone nC : Nat} (hg : gone < 2 ^ nC) (hV : ∀ c, c < nC → V c = W c) (hR : ∀ k, k < 2 ^ nC → R k = S k) (hd : due = due') : fgP V R due gone nC = fgP W S due' gone nC := by
  subst hd
  unfold fgP
  have e := hR gone hg
  by_cases h : R gone = due
  · rw [if_pos h, if_pos (e.symm.trans h)]
  · rw [if_neg h, if_neg (fun q => h (e.trans q))]
    exact fE_eq (fun c hc => by rw [hV c hc, hR _ (or_lt hg hc)])
set_option maxRecDepth 100000 in
set_option maxHeartbeats 4000000 in
theorem c_deal (Γ : pTG) (g : pGG) (mi : pMI) (ml : pML) (hSh : Sh g) (P : PD) (hP : okPD P) (hc : clP mi P) (ht : tbG P mi P.2.1) (hv : vlG P mi) : rV Γ 2 mX4_deal [.ref 77] g mi ml (fun m l => frG mi m ∧ vlG P m ∧ (∀ j, j ≠ 80 → m j = mi j) ∧ (∀ b, b < P.2.1 → m 80 b = oI (gift P b (gnD P b))) ∧ l = ml) := by
  refine rV_of (by decide +kernel) (Nat.le_of_ble_eq_true rfl) ?_
  have hC8 := hP.1
  have hG8 := hP.2.1
  have h256 := p8 hP.1
  refine X_iconst (v := nI 0) dX4_deal_0 (by decide) ?_
  refine X_istore_n dX4_deal_1 (by decide) ?_
  refine X_iconst (v := nI 0) dX4_deal_2 (by decide) ?_
  refine X_istore_n dX4_deal_3 (by decide) ?_
  refine X_L [(2, .int (nI 0)), (1, .int (nI 0)), (0, .ref 77)] ⟨rfl, rfl, rfl, trivial⟩ ?_
  refine X_forR (σ := pMI) 4 (fun i y => [(2, .int (nI i)), (1, .int (nI (gnD P i))), (0, .ref 77)]) (fun y => y) (fun y => ml) (fun i y => frG mi y ∧ tbG P y P.2.1 ∧ vlG P y ∧ (∀ j, j ≠ 80 → y j = mi j) ∧ ∀ b, b < i → y 80 b = oI (gift P b (gnD P b))) P.2.1 ?_ ?_ P.2.1 0 mi (by omega) ⟨frG_r, ht, hv, fun _ _ => rfl, fun b hb => absurd hb (by omega)⟩
  · intro i y hi hI hn
    have hfg : oI (fgP (fun c => y 78 (i * 9 + c)) (fun k => y 79 ((i + 1) * 256 + k)) (y 79 (i * 256 + gnD P i)) (gnD P i) P.1) = oI (gift P i (gnD P i)) := by
      congr 1
      have e1 : ∀ q, q < 2 ^ P.1 → y 79 ((i + 1) * 256 + q) = gtR (vP P) P.2.1 P.1 (P.2.1 - 1 - i) q := fun q hq => by
        have := hI.2.1 (P.2.1 - 1 - i) (by omega) q hq; rw [show P.2.1 - (P.2.1 - 1 - i) = i + 1 by omega] at this; exact this
      have e2 : y 79 (i * 256 + gnD P i) = gtR (vP P) P.2.1 P.1 (P.2.1 - i) (gnD P i) := by
        have := hI.2.1 (P.2.1 - i) (by omega) _ (gnD_lt P i); rw [show P.2.1 - (P.2.1 - i) = i by omega] at this; exact this
      exact fgP_eq (gnD_lt P i) (fun c hcc => hI.2.2.1 i hi c hcc) e1 e2
    have hnew : frG mi (up2 y 80 i (oI (gift P i (gnD P i)))) ∧ tbG P (up2 y 80 i (oI (gift P i (gnD P i)))) P.2.1 ∧ vlG P (up2 y 80 i (oI (gift P i (gnD P i)))) ∧ (∀ j, j ≠ 80 → up2 y 80 i (oI (gift P i (gnD P i))) j = mi j) ∧ ∀ b, b < i + 1 → up2 y 80 i (oI (gift P i (gnD P i))) 80 b = oI (gift P b (gnD P b)) := by
      refine ⟨frG_u hI.1 (by omega), fun k hk q hq => by rw [up2_row (by omega)]; exact hI.2.1 k hk q hq, fun b hb c hcc => by rw [up2_row (by omega)]; exact hI.2.2.1 b hb c hcc, fun j hj => by rw [up2_row hj]; exact hI.2.2.2.1 j hj, fun b hb => ?_⟩
      by_cases hbi : b = i
      · subst hbi; exact up2_s
      · rw [up2_n hbi]; exact hI.2.2.2.2 b (by omega)
    cases hgf : gift P i (gnD P i) with
    | none =>
      rw [hgf] at hfg hnew
      refine X_iload_n dX4_deal_4 rfl ?_
      refine X_aload_n dX4_deal_5 rfl ?_
      refine X_getr (a := 3) dX4_deal_6 fkX4_21 rfl (k_77 hSh) (r_77_0 hSh) ?_
      refine X_geti dX4_deal_9 fkX4_29 rfl (k_3 hSh) ?_
      rw [(frG_cl hI.1 hc).2.1]
      refine X_icmp_geN (a := i) (b := P.2.1) 54 dX4_deal_12 (by decide) (by omega) (by omega) (fun h_1 => ?_) (fun h_1 => ?_)
      · exact absurd hi (by omega)
      · refine X_aload_n dX4_deal_15 rfl ?_
        refine X_getr (a := 80) dX4_deal_16 fkX4_18 rfl (k_77 hSh) (r_77_3 hSh) ?_
        refine X_iload_n dX4_deal_19 rfl ?_
        refine X_aload_n dX4_deal_20 rfl ?_
        refine X_iload_n dX4_deal_21 rfl ?_
        refine X_iload_n dX4_deal_22 rfl ?_
        refine X_callVI dX4_deal_23 mkX4_52 (k_77 hSh) (c_firstGift Γ g y ml hSh P.1 (frG_cl hI.1 hc).1 hP.1 i (gnD P i) (by omega) (gnD_lt P i)) rfl rfl (by decide) (Nat.le_of_ble_eq_true rfl) ?_
        refine X_topi (show _ = -1 from hfg) ?_
        refine X_iast i dX4_deal_26 (k_80 hSh) rfl (by omega) ?_
        refine X_aload_n dX4_deal_27 rfl ?_
        refine X_getr (a := 80) dX4_deal_28 fkX4_18 rfl (k_77 hSh) (r_77_3 hSh) ?_
        refine X_iload_n dX4_deal_31 rfl ?_
        refine X_iald i dX4_deal_32 (k_80 hSh) rfl (by omega) ?_
        refine X_topi (show (up2 y 80 i (-1)) 80 i = -1 by rw [up2_s]) ?_
        refine X_iconst (v := -1) dX4_deal_33 (by decide) ?_
        refine X_icmp_eq 48 dX4_deal_34 (by decide) (fun h_2 => ?_) (fun h_2 => ?_)
        · refine X_iinc (v := nI (i + 1)) dX4_deal_48 rfl (nI_1 _) (by decide) ?_
          refine X_goto 4 dX4_deal_51 (by decide) ?_
          refine X_L [(2, .int (nI (i + 1))), (1, .int (nI (gnD P i))), (0, .ref 77)] ⟨rfl, rfl, rfl, trivial⟩ ?_
          have e9 : gnD P (i + 1) = gnD P i := by show (match gift P i (gnD P i) with | none => _ | some c => _) = _; rw [hgf]
          have hn2 := hn _ hnew
          rw [e9] at hn2
          exact hn2
        · exact absurd rfl h_2
    | some c9 =>
      rw [hgf] at hfg hnew
      have hc9 := fgP_lt hgf
      refine X_iload_n dX4_deal_4 rfl ?_
      refine X_aload_n dX4_deal_5 rfl ?_
      refine X_getr (a := 3) dX4_deal_6 fkX4_21 rfl (k_77 hSh) (r_77_0 hSh) ?_
      refine X_geti dX4_deal_9 fkX4_29 rfl (k_3 hSh) ?_
      rw [(frG_cl hI.1 hc).2.1]
      refine X_icmp_geN (a := i) (b := P.2.1) 54 dX4_deal_12 (by decide) (by omega) (by omega) (fun h_3 => ?_) (fun h_3 => ?_)
      · exact absurd hi (by omega)
      · refine X_aload_n dX4_deal_15 rfl ?_
        refine X_getr (a := 80) dX4_deal_16 fkX4_18 rfl (k_77 hSh) (r_77_3 hSh) ?_
        refine X_iload_n dX4_deal_19 rfl ?_
        refine X_aload_n dX4_deal_20 rfl ?_
        refine X_iload_n dX4_deal_21 rfl ?_
        refine X_iload_n dX4_deal_22 rfl ?_
        refine X_callVI dX4_deal_23 mkX4_52 (k_77 hSh) (c_firstGift Γ g y ml hSh P.1 (frG_cl hI.1 hc).1 hP.1 i (gnD P i) (by omega) (gnD_lt P i)) rfl rfl (by decide) (Nat.le_of_ble_eq_true rfl) ?_
        refine X_topi (show _ = nI c9 from hfg) ?_
        refine X_iast i dX4_deal_26 (k_80 hSh) rfl (by omega) ?_
        refine X_aload_n dX4_deal_27 rfl ?_
        refine X_getr (a := 80) dX4_deal_28 fkX4_18 rfl (k_77 hSh) (r_77_3 hSh) ?_
        refine X_iload_n dX4_deal_31 rfl ?_
        refine X_iald i dX4_deal_32 (k_80 hSh) rfl (by omega) ?_
        refine X_topi (show (up2 y 80 i (nI c9)) 80 i = nI c9 by rw [up2_s]) ?_
        refine X_iconst (v := -1) dX4_deal_33 (by decide) ?_
        refine X_icmp_eq 48 dX4_deal_34 (by decide) (fun h_4 => ?_) (fun h_4 => ?_)
        · exact absurd h_4 (nI_m1 (by omega))
        · refine X_iload_n dX4_deal_37 rfl ?_
          refine X_iconst (v := nI 1) dX4_deal_38 (by decide) ?_
          refine X_aload_n dX4_deal_39 rfl ?_
          refine X_getr (a := 80) dX4_deal_40 fkX4_18 rfl (k_77 hSh) (r_77_3 hSh) ?_
          refine X_iload_n dX4_deal_43 rfl ?_
          refine X_iald i dX4_deal_44 (k_80 hSh) rfl (by omega) ?_
          refine X_topi (show (up2 y 80 i (nI c9)) 80 i = nI c9 by rw [up2_s]) ?_
          refine X_ishl dX4_deal_45 ?_
          refine X_ior dX4_deal_46 ?_
          refine X_topi (nb_or (gnD P i) (by have := gnD_lt P i; omega) c9 (by omega)) ?_
          refine X_istore_n dX4_deal_47 (by decide) ?_
          refine X_iinc (v := nI (i + 1)) dX4_deal_48 rfl (nI_1 _) (by decide) ?_
          refine X_goto 4 dX4_deal_51 (by decide) ?_
          refine X_L [(2, .int (nI (i + 1))), (1, .int (nI (gnD P i ||| 2 ^ c9))), (0, .ref 77)] ⟨rfl, rfl, rfl, trivial⟩ ?_
          have e9 : gnD P (i + 1) = gnD P i ||| 2 ^ c9 := by show (match gift P i (gnD P i) with | none => _ | some c => _) = _; rw [hgf]
          have hn2 := hn _ hnew
          rw [e9] at hn2
          exact hn2
  · intro y hI
    refine X_iload_n dX4_deal_4 rfl ?_
    refine X_aload_n dX4_deal_5 rfl ?_
    refine X_getr (a := 3) dX4_deal_6 fkX4_21 rfl (k_77 hSh) (r_77_0 hSh) ?_
    refine X_geti dX4_deal_9 fkX4_29 rfl (k_3 hSh) ?_
    rw [(frG_cl hI.1 hc).2.1]
    refine X_icmp_geN (a := P.2.1) (b := P.2.1) 54 dX4_deal_12 (by decide) (by omega) (by omega) (fun h_5 => ?_) (fun h_5 => ?_)
    · exact X_vret dX4_deal_54 rfl ⟨rfl, rfl, hI.1, hI.2.2.1, hI.2.2.2.1, hI.2.2.2.2, rfl⟩
    · exact absurd h_5 (by omega)

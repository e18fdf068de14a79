/-! ===== chairs given ===== -/
theorem nb_ask : ∀ k, k < 512 → ∀ i, i < 9 → bt (nI k) i = k.testBit i := by decide +kernel
theorem nb_or : ∀ k, k < 512 → ∀ i, i < 9 → nI k ||| (nI 1 <<< (nI i &&& 31)) = nI (k ||| 2 ^ i) := by decide +kernel
theorem nb_sh : ∀ i, i < 10 → nI 1 <<< (nI i &&& 31) = nI (2 ^ i) := by decide +kernel
theorem or_lt {k i c : Nat} (h1 : k < 2 ^ c) (h2 : i < c) : k ||| 2 ^ i < 2 ^ c := Nat.or_lt_two_pow h1 (Nat.pow_lt_pow_right (by omega) h2)
theorem p9 {c : Nat} (h : c ≤ 9) : 2 ^ c ≤ 512 := Nat.pow_le_pow_right (by omega) (show c ≤ 9 from h)
theorem p8 {c : Nat} (h : c ≤ 8) : 2 ^ c ≤ 256 := Nat.pow_le_pow_right (by omega) (show c ≤ 8 from h)
def mxI (a b : Int32) : Int32 := if b ≤ a then a else b
/-- the best of a guest and those behind him, over the first chairs -/
def bfN (V R : Nat → Int32) (gone : Nat) : Nat → Int32
  | 0 => R gone
  | n + 1 => if gone.testBit n = true then bfN V R gone n else mxI (bfN V R gone n) (V n + R (gone ||| 2 ^ n))
theorem bfN_eq {V W R S : Nat → Int32} {gone c : Nat} (hg : gone < 2 ^ c) : ∀ n, n ≤ c → (∀ i, i < n → V i = W i) → (∀ k, k < 2 ^ c → R k = S k) → bfN V R gone n = bfN W S gone n
  | 0, _, _, h2 => h2 gone hg
  | n + 1, hn, h1, h2 => by
    unfold bfN
    rw [bfN_eq hg n (by omega) (fun i hi => h1 i (by omega)) h2, h1 n (by omega), h2 _ (or_lt hg (by omega))]
def gtR (V : Nat → Nat → Int32) (nG c : Nat) : Nat → Nat → Int32
  | 0, _ => nI 0
  | j + 1, gone => bfN (V (nG - (j + 1))) (gtR V nG c j) gone c
set_option maxRecDepth 100000 in
set_option maxHeartbeats 4000000 in
theorem c_bestFrom (Γ : pTG) (g : pGG) (mi : pMI) (ml : pML) (hSh : Sh g) (b gn nx c : Nat) (hb : b < 8) (hc : c ≤ 9) (hgn : gn < 2 ^ c) (hnx : nx + 2 ^ c ≤ 2304) : cI Γ 1 mX4_bestFrom [.ref 77, .int (nI b), .int (nI gn), .int (nI nx), .int (nI c)] g mi ml (bfN (fun c => mi 78 (b * 9 + c)) (fun k => mi 79 (nx + k)) gn c) mi := by
  refine cI_of (by decide +kernel) (Nat.le_of_ble_eq_true rfl) ?_
  have h512 := p9 hc
  refine X_aload_n dX4_bestFrom_0 rfl ?_
  refine X_getr (a := 79) dX4_bestFrom_1 fkX4_15 rfl (k_77 hSh) (r_77_2 hSh) ?_
  refine X_iload_n dX4_bestFrom_4 rfl ?_
  refine X_iload_n dX4_bestFrom_5 rfl ?_
  refine X_iadd dX4_bestFrom_6 ?_
  refine X_topi (nI_add nx gn) ?_
  refine X_iald (nx + gn) dX4_bestFrom_7 (k_79 hSh) rfl (by first | omega | (have := or_lt hgn (show i < c by omega); omega)) ?_
  refine X_istore dX4_bestFrom_8 (by decide) ?_
  refine X_iconst (v := nI 0) dX4_bestFrom_10 (by decide) ?_
  refine X_istore dX4_bestFrom_11 (by decide) ?_
  refine X_L [(6, .int (nI 0)), (5, .int (mi 79 (nx + gn))), (0, .ref 77), (1, .int (nI b)), (2, .int (nI gn)), (3, .int (nI nx)), (4, .int (nI c))] ⟨rfl, rfl, rfl, rfl, rfl, rfl, rfl, trivial⟩ ?_
  refine X_for2 (σ := Unit) 13 (fun i x => [(6, .int (nI i)), (5, .int (bfN (fun c => mi 78 (b * 9 + c)) (fun k => mi 79 (nx + k)) gn i)), (0, .ref 77), (1, .int (nI b)), (2, .int (nI gn)), (3, .int (nI nx)), (4, .int (nI c))]) (fun x => mi) (fun x => ml) (fun _ x => x) (fun _ _ => True) c ?_ c 0 () (by first | omega | (have := or_lt hgn (show i < c by omega); omega)) trivial ?_
  · intro i x hi hI
    refine ⟨trivial, fun hn => ?_⟩
    refine X_iload dX4_bestFrom_13 rfl ?_
    refine X_iload dX4_bestFrom_15 rfl ?_
    refine X_icmp_geN (a := i) (b := c) 79 dX4_bestFrom_17 (by decide) (by first | omega | (have := or_lt hgn (show i < c by omega); omega)) (by first | omega | (have := or_lt hgn (show i < c by omega); omega)) (fun h_1 => ?_) (fun h_1 => ?_)
    · exact absurd hi (by omega)
    · refine X_iload_n dX4_bestFrom_20 rfl ?_
      refine X_iload dX4_bestFrom_21 rfl ?_
      refine X_ishr dX4_bestFrom_23 ?_
      refine X_iconst (v := nI 1) dX4_bestFrom_24 (by decide) ?_
      refine X_iand dX4_bestFrom_25 ?_
      refine X_topi (bit_ask (k := i) (by omega)) ?_
      refine X_topi (show _ = bI (gn.testBit i) by rw [nb_ask gn (by omega) i (by omega)]) ?_
      cases htb : gn.testBit i with
      | false =>
        refine X_if_ne 73 dX4_bestFrom_26 (by decide) (fun h_2 => ?_) (fun h_2 => ?_)
        · exact absurd rfl h_2
        · refine X_aload_n dX4_bestFrom_29 rfl ?_
          refine X_getr (a := 78) dX4_bestFrom_30 fkX4_11 rfl (k_77 hSh) (r_77_1 hSh) ?_
          refine X_iload_n dX4_bestFrom_33 rfl ?_
          refine X_bipush (v := nI 9) dX4_bestFrom_34 (by decide) ?_
          refine X_imul dX4_bestFrom_36 ?_
          refine X_topi (pk_mul b 9) ?_
          refine X_iload dX4_bestFrom_37 rfl ?_
          refine X_iadd dX4_bestFrom_39 ?_
          refine X_topi (nI_add (b * 9) i) ?_
          refine X_iald ((b * 9) + i) dX4_bestFrom_40 (k_78 hSh) rfl (by first | omega | (have := or_lt hgn (show i < c by omega); omega)) ?_
          refine X_aload_n dX4_bestFrom_41 rfl ?_
          refine X_getr (a := 79) dX4_bestFrom_42 fkX4_15 rfl (k_77 hSh) (r_77_2 hSh) ?_
          refine X_iload_n dX4_bestFrom_45 rfl ?_
          refine X_iload_n dX4_bestFrom_46 rfl ?_
          refine X_iconst (v := nI 1) dX4_bestFrom_47 (by decide) ?_
          refine X_iload dX4_bestFrom_48 rfl ?_
          refine X_ishl dX4_bestFrom_50 ?_
          refine X_ior dX4_bestFrom_51 ?_
          refine X_topi (nb_or gn (by omega) i (by omega)) ?_
          refine X_iadd dX4_bestFrom_52 ?_
          refine X_topi (nI_add nx (gn ||| 2 ^ i)) ?_
          refine X_iald (nx + (gn ||| 2 ^ i)) dX4_bestFrom_53 (k_79 hSh) rfl (by first | omega | (have := or_lt hgn (show i < c by omega); omega)) ?_
          refine X_iadd dX4_bestFrom_54 ?_
          refine X_istore dX4_bestFrom_55 (by decide) ?_
          refine X_iload dX4_bestFrom_57 rfl ?_
          refine X_iload dX4_bestFrom_59 rfl ?_
          refine X_icmp_le 69 dX4_bestFrom_61 (by decide) (fun h_3 => ?_) (fun h_3 => ?_)
          · refine X_iload dX4_bestFrom_69 rfl ?_
            refine X_istore dX4_bestFrom_71 (by decide) ?_
            refine X_iinc (v := nI (i + 1)) dX4_bestFrom_73 rfl (nI_1 _) (by decide) ?_
            refine X_goto 13 dX4_bestFrom_76 (by decide) ?_
            refine X_L [(6, .int (nI (i + 1))), (5, .int (bfN (fun c => mi 78 (b * 9 + c)) (fun k => mi 79 (nx + k)) gn i)), (0, .ref 77), (1, .int (nI b)), (2, .int (nI gn)), (3, .int (nI nx)), (4, .int (nI c))] ⟨rfl, rfl, rfl, rfl, rfl, rfl, rfl, trivial⟩ ?_
            rw [show bfN (fun c => mi 78 (b * 9 + c)) (fun k => mi 79 (nx + k)) gn (i + 1) = bfN (fun c => mi 78 (b * 9 + c)) (fun k => mi 79 (nx + k)) gn i from (if_neg (by rw [htb]; decide)).trans (if_pos (by assumption))] at hn
            exact hn
          · refine X_iload dX4_bestFrom_64 rfl ?_
            refine X_goto 71 dX4_bestFrom_66 (by decide) ?_
            refine X_istore dX4_bestFrom_71 (by decide) ?_
            refine X_iinc (v := nI (i + 1)) dX4_bestFrom_73 rfl (nI_1 _) (by decide) ?_
            refine X_goto 13 dX4_bestFrom_76 (by decide) ?_
            refine X_L [(6, .int (nI (i + 1))), (5, .int ((mi 78 ((b * 9) + i)) + (mi 79 (nx + (gn ||| 2 ^ i))))), (0, .ref 77), (1, .int (nI b)), (2, .int (nI gn)), (3, .int (nI nx)), (4, .int (nI c))] ⟨rfl, rfl, rfl, rfl, rfl, rfl, rfl, trivial⟩ ?_
            rw [show bfN (fun c => mi 78 (b * 9 + c)) (fun k => mi 79 (nx + k)) gn (i + 1) = (mi 78 ((b * 9) + i)) + (mi 79 (nx + (gn ||| 2 ^ i))) from (if_neg (by rw [htb]; decide)).trans (if_neg (by assumption))] at hn
            exact hn
      | true =>
        refine X_if_ne 73 dX4_bestFrom_26 (by decide) (fun h_4 => ?_) (fun h_4 => ?_)
        · refine X_iinc (v := nI (i + 1)) dX4_bestFrom_73 rfl (nI_1 _) (by decide) ?_
          refine X_goto 13 dX4_bestFrom_76 (by decide) ?_
          refine X_L [(6, .int (nI (i + 1))), (5, .int (bfN (fun c => mi 78 (b * 9 + c)) (fun k => mi 79 (nx + k)) gn i)), (0, .ref 77), (1, .int (nI b)), (2, .int (nI gn)), (3, .int (nI nx)), (4, .int (nI c))] ⟨rfl, rfl, rfl, rfl, rfl, rfl, rfl, trivial⟩ ?_
          rw [show bfN (fun c => mi 78 (b * 9 + c)) (fun k => mi 79 (nx + k)) gn (i + 1) = bfN (fun c => mi 78 (b * 9 + c)) (fun k => mi 79 (nx + k)) gn i from if_pos htb] at hn
          exact hn
        · exact absurd h_4 (by decide)
  · intro x hI
    refine X_iload dX4_bestFrom_13 rfl ?_
    refine X_iload dX4_bestFrom_15 rfl ?_
    refine X_icmp_geN (a := c) (b := c) 79 dX4_bestFrom_17 (by decide) (by first | omega | (have := or_lt hgn (show i < c by omega); omega)) (by first | omega | (have := or_lt hgn (show i < c by omega); omega)) (fun h_5 => ?_) (fun h_5 => ?_)
    · refine X_iload dX4_bestFrom_79 rfl ?_
      exact X_iret dX4_bestFrom_81 rfl ⟨by rfl, rfl, rfl, rfl⟩
    · exact absurd h_5 (by omega)

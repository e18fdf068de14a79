/-- ranks and the order that they tell -/
def okR (x : pMI) (rk ord : Nat → Nat) : Prop := (∀ b, b < 8 → x 197 b = nI (rk b) ∧ rk b < 8 ∧ ord (rk b) = b) ∧ (∀ q, q < 8 → ord q < 8 ∧ rk (ord q) = q)
set_option maxRecDepth 100000 in
set_option maxHeartbeats 4000000 in
theorem c_guestOfRank (Γ : pTG) (g : pGG) (mi : pMI) (ml : pML) (hSh : Sh g) (rk ord : Nat → Nat) (hR : okR mi rk ord) (q : Nat) (hq : q < 8) : cI Γ 1 mX12_guestOfRank [.ref 87, .int (nI q)] g mi ml (nI (ord q)) mi := by
  refine cI_of (by decide +kernel) (Nat.le_of_ble_eq_true rfl) ?_
  refine X_iconst (v := nI 0) dX12_guestOfRank_0 (by decide) ?_
  refine X_istore_n dX12_guestOfRank_1 (by decide) ?_
  refine X_L [(2, .int (nI 0)), (0, .ref 87), (1, .int (nI q))] ⟨rfl, rfl, rfl, trivial⟩ ?_
  refine X_for2 (σ := Unit) 2 (fun i x => [(2, .int (nI i)), (0, .ref 87), (1, .int (nI q))]) (fun x => mi) (fun x => ml) (fun _ x => x) (fun _ _ => True) (ord q) ?_ (ord q) 0 () (by first | omega | (have h1 := (hR.1 i (by have := hR.2 q hq; omega)).2.1; have h2 := hR.2 q hq; omega) | (have h1 := (hR.1 (ord q) (by have := hR.2 q hq; omega)).2.1; have h2 := hR.2 q hq; omega)) trivial ?_
  · intro i x hi hI
    refine ⟨trivial, fun hn => ?_⟩
    refine X_aload_n dX12_guestOfRank_2 rfl ?_
    refine X_getr (a := 197) dX12_guestOfRank_3 fkX12_80 rfl (k_87 hSh) (r_87_37 hSh) ?_
    refine X_iload_n dX12_guestOfRank_6 rfl ?_
    refine X_iald i dX12_guestOfRank_7 (k_197 hSh) rfl (by first | omega | (have h1 := (hR.1 i (by have := hR.2 q hq; omega)).2.1; have h2 := hR.2 q hq; omega) | (have h1 := (hR.1 (ord q) (by have := hR.2 q hq; omega)).2.1; have h2 := hR.2 q hq; omega)) ?_
    rw [(hR.1 i (by have := hR.2 q hq; omega)).1]
    refine X_iload_n dX12_guestOfRank_8 rfl ?_
    refine X_icmp_eqN (a := rk i) (b := q) 18 dX12_guestOfRank_9 (by decide) (by first | omega | (have h1 := (hR.1 i (by have := hR.2 q hq; omega)).2.1; have h2 := hR.2 q hq; omega) | (have h1 := (hR.1 (ord q) (by have := hR.2 q hq; omega)).2.1; have h2 := hR.2 q hq; omega)) (by first | omega | (have h1 := (hR.1 i (by have := hR.2 q hq; omega)).2.1; have h2 := hR.2 q hq; omega) | (have h1 := (hR.1 (ord q) (by have := hR.2 q hq; omega)).2.1; have h2 := hR.2 q hq; omega)) (fun h_1 => ?_) (fun h_1 => ?_)
    · exact absurd ((hR.1 i (by have := hR.2 q hq; omega)).2.2.symm.trans (congrArg ord h_1)) (by omega)
    · refine X_iinc (v := nI (i + 1)) dX12_guestOfRank_12 rfl (nI_1 _) (by decide) ?_
      refine X_goto 2 dX12_guestOfRank_15 (by decide) ?_
      refine X_L [(2, .int (nI (i + 1))), (0, .ref 87), (1, .int (nI q))] ⟨rfl, rfl, rfl, trivial⟩ ?_
      exact hn
  · intro x hI
    refine X_aload_n dX12_guestOfRank_2 rfl ?_
    refine X_getr (a := 197) dX12_guestOfRank_3 fkX12_80 rfl (k_87 hSh) (r_87_37 hSh) ?_
    refine X_iload_n dX12_guestOfRank_6 rfl ?_
    refine X_iald ((ord q)) dX12_guestOfRank_7 (k_197 hSh) rfl (by first | omega | (have h1 := (hR.1 i (by have := hR.2 q hq; omega)).2.1; have h2 := hR.2 q hq; omega) | (have h1 := (hR.1 (ord q) (by have := hR.2 q hq; omega)).2.1; have h2 := hR.2 q hq; omega)) ?_
    rw [(hR.1 ((ord q)) (by have := hR.2 q hq; omega)).1]
    refine X_iload_n dX12_guestOfRank_8 rfl ?_
    refine X_icmp_eqN (a := rk ((ord q))) (b := q) 18 dX12_guestOfRank_9 (by decide) (by first | omega | (have h1 := (hR.1 i (by have := hR.2 q hq; omega)).2.1; have h2 := hR.2 q hq; omega) | (have h1 := (hR.1 (ord q) (by have := hR.2 q hq; omega)).2.1; have h2 := hR.2 q hq; omega)) (by first | omega | (have h1 := (hR.1 i (by have := hR.2 q hq; omega)).2.1; have h2 := hR.2 q hq; omega) | (have h1 := (hR.1 (ord q) (by have := hR.2 q hq; omega)).2.1; have h2 := hR.2 q hq; omega)) (fun h_2 => ?_) (fun h_2 => ?_)
    · refine X_iload_n dX12_guestOfRank_18 rfl ?_
      exact X_iret dX12_guestOfRank_19 rfl ⟨by rfl, rfl, rfl, rfl⟩
    · exact absurd (hR.2 q hq).2 h_2

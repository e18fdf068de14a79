/-! ===== the wrappers of the law ===== -/
theorem inzL : Cond.initialized RL ∈ uxW := (u_t1 0 (by decide +kernel) (by decide +kernel))
theorem clkL_13 : Cond.classLink RL 13 "java/lang/IllegalArgumentException" ∈ uxW := (u_t3 234 (by decide +kernel) (by decide +kernel))
theorem clkL_19 : Cond.classLink RL 19 "java/util/NoSuchElementException" ∈ uxW := (u_t4 212 (by decide +kernel) (by decide +kernel))
theorem clkL_71 : Cond.classLink RL 71 "java/lang/IllegalStateException" ∈ uxW := (u_t5 201 (by decide +kernel) (by decide +kernel))
/-- a call's end through a wrapper: 0 and the answer kept, or the reason's number -/
def WQ (A : AS) (x : OUT) (cd : Nat → Nat) (m : pMI) : pQ := fun o g' m' l' => CI A g' m' l' ∧ frK m m' ∧ match x with
  | .inl v => o = .inl (some (.int (nI 0))) ∧ l' 450 0 = v.toInt64
  | .inr j => o = .inl (some (.int (nI (cd j))))
theorem CI_450 {A : AS} {g : pGG} {m : pMI} {l : pML} {v : Int64} (h : CI A g m l) : CI A g m (up2 l 450 0 v) := CI_fr h frS_r (up2_row (by omega))
abbrev hhL_pool : List (Nat × Nat × Nat × Nat) := [(0, 9, 12, 13)]
theorem hdL_pool_1 : HDL mL_pool hhL_pool 4 xIAE 1 := ⟨[], ⟨0, 9, 12, 13⟩, [], _, rfl, (fun z hz => absurd hz List.not_mem_nil), by decide +kernel, by decide, clkL_13, by decide +kernel, rfl, Or.inl ⟨3, by decide, dL_pool_12, dL_pool_13, dL_pool_14⟩⟩
set_option maxRecDepth 100000 in
theorem w_pool (Γ : pTG) (g : pGG) (mi : pMI) (ml : pML) (hSh : Sh g) (A' : AS) (x : OUT) (hj : ∀ j, x = .inr j → j < 3 ∧ ¬ cd1 j = 0) (p0 : Int32) (hC : CT Γ 60 20 5000 mX11_pool [.ref 0, .int p0] g mi ml (CQ A' x mi ml)) : CTH Γ 61 20 5000 mL_pool hhL_pool [.ref 0, .int p0, .ref 450] g mi ml (WQ A' x cd1 mi) := by
  refine CTH_of (by decide +kernel) (Nat.le_of_ble_eq_true rfl) ?_
  refine T_aload_n dL_pool_0 rfl ?_
  refine T_iconst (v := nI 0) dL_pool_1 (by decide) ?_
  refine T_aload_n dL_pool_2 rfl ?_
  refine T_iload_n dL_pool_3 rfl ?_
  refine T_callV (As := [.int p0]) (z := 0) dL_pool_4 mkL_7 (k_0 hSh) hC rfl rfl (by decide) (by decide) (by decide) (Nat.le_of_ble_eq_true rfl) (fun E g' mi' ml' h => ?_) (fun v g' mi' ml' h => ?_)
  · obtain ⟨h1, h2, h3, h4⟩ := h
    cases x with
    | inl v => cases h1
    | inr j =>
      have hjj := hj j rfl
      cases h1
      match j, hjj with
      | 0, hjj => exact absurd hjj.2 (by decide)
      | 1, _ => exact ⟨1, hdL_pool_1, h2, h3, rfl⟩
      | 2, hjj => exact absurd hjj.2 (by decide)
      | j + 3, hjj => exact absurd hjj.1 (by omega)
  · obtain ⟨h1, h2, h3, h4⟩ := h
    cases x with
    | inr j => cases h1
    | inl v' =>
      cases h1
      refine T_i2l dL_pool_7 ?_
      refine T_last 0 dL_pool_8 (k_450 (CI_Sh h2)) rfl (by decide) ?_
      refine T_goto 15 dL_pool_9 (by decide) ?_
      refine T_iconst (v := nI 0) dL_pool_15 (by decide) ?_
      exact T_iret dL_pool_16 rfl ⟨CI_450 h2, h3, rfl, up2_s⟩
abbrev hhL_habit : List (Nat × Nat × Nat × Nat) := [(0, 10, 13, 19), (0, 10, 17, 13)]
theorem hdL_habit_0 : HDL mL_habit hhL_habit 5 xNSE 1 := ⟨[], ⟨0, 10, 13, 19⟩, [⟨0, 10, 17, 13⟩], _, rfl, (fun z hz => absurd hz List.not_mem_nil), by decide +kernel, by decide, clkL_19, by decide +kernel, rfl, Or.inr ⟨4, by decide, dL_habit_13, dL_habit_15, dL_habit_16⟩⟩
theorem hdL_habit_1 : HDL mL_habit hhL_habit 5 xIAE 2 := ⟨[⟨0, 10, 13, 19⟩], ⟨0, 10, 17, 13⟩, [], _, rfl, (fun z hz => by rw [List.mem_singleton] at hz; subst hz; exact ⟨by decide, _, clkL_19, by decide +kernel⟩), by decide +kernel, by decide, clkL_13, by decide +kernel, rfl, Or.inr ⟨4, by decide, dL_habit_17, dL_habit_19, dL_habit_20⟩⟩
set_option maxRecDepth 100000 in
theorem w_habit (Γ : pTG) (g : pGG) (mi : pMI) (ml : pML) (hSh : Sh g) (A' : AS) (x : OUT) (hj : ∀ j, x = .inr j → j < 3 ∧ ¬ cd2 j = 0) (p0 : Int32) (p1 : Int32) (hC : CT Γ 60 20 5000 mX11_habit [.ref 0, .int p0, .int p1] g mi ml (CQ A' x mi ml)) : CTH Γ 61 20 5000 mL_habit hhL_habit [.ref 0, .int p0, .int p1, .ref 450] g mi ml (WQ A' x cd2 mi) := by
  refine CTH_of (by decide +kernel) (Nat.le_of_ble_eq_true rfl) ?_
  refine T_aload_n dL_habit_0 rfl ?_
  refine T_iconst (v := nI 0) dL_habit_1 (by decide) ?_
  refine T_aload_n dL_habit_2 rfl ?_
  refine T_iload_n dL_habit_3 rfl ?_
  refine T_iload_n dL_habit_4 rfl ?_
  refine T_callV (As := [.int p0, .int p1]) (z := 0) dL_habit_5 mkL_15 (k_0 hSh) hC rfl rfl (by decide) (by decide) (by decide) (Nat.le_of_ble_eq_true rfl) (fun E g' mi' ml' h => ?_) (fun v g' mi' ml' h => ?_)
  · obtain ⟨h1, h2, h3, h4⟩ := h
    cases x with
    | inl v => cases h1
    | inr j =>
      have hjj := hj j rfl
      cases h1
      match j, hjj with
      | 0, _ => exact ⟨1, hdL_habit_0, h2, h3, rfl⟩
      | 1, _ => exact ⟨2, hdL_habit_1, h2, h3, rfl⟩
      | 2, hjj => exact absurd hjj.2 (by decide)
      | j + 3, hjj => exact absurd hjj.1 (by omega)
  · obtain ⟨h1, h2, h3, h4⟩ := h
    cases x with
    | inr j => cases h1
    | inl v' =>
      cases h1
      refine T_i2l dL_habit_8 ?_
      refine T_last 0 dL_habit_9 (k_450 (CI_Sh h2)) rfl (by decide) ?_
      refine T_goto 21 dL_habit_10 (by decide) ?_
      refine T_iconst (v := nI 0) dL_habit_21 (by decide) ?_
      exact T_iret dL_habit_22 rfl ⟨CI_450 h2, h3, rfl, up2_s⟩
abbrev hhL_book : List (Nat × Nat × Nat × Nat) := [(0, 9, 12, 13)]
theorem hdL_book_1 : HDL mL_book hhL_book 4 xIAE 1 := ⟨[], ⟨0, 9, 12, 13⟩, [], _, rfl, (fun z hz => absurd hz List.not_mem_nil), by decide +kernel, by decide, clkL_13, by decide +kernel, rfl, Or.inl ⟨3, by decide, dL_book_12, dL_book_13, dL_book_14⟩⟩
set_option maxRecDepth 100000 in
theorem w_book (Γ : pTG) (g : pGG) (mi : pMI) (ml : pML) (hSh : Sh g) (A' : AS) (x : OUT) (hj : ∀ j, x = .inr j → j < 3 ∧ ¬ cd1 j = 0) (p0 : Int32) (hC : CT Γ 60 20 5000 mX11_book [.ref 0, .int p0] g mi ml (CQ A' x mi ml)) : CTH Γ 61 20 5000 mL_book hhL_book [.ref 0, .int p0, .ref 450] g mi ml (WQ A' x cd1 mi) := by
  refine CTH_of (by decide +kernel) (Nat.le_of_ble_eq_true rfl) ?_
  refine T_aload_n dL_book_0 rfl ?_
  refine T_iconst (v := nI 0) dL_book_1 (by decide) ?_
  refine T_aload_n dL_book_2 rfl ?_
  refine T_iload_n dL_book_3 rfl ?_
  refine T_callV (As := [.int p0]) (z := 0) dL_book_4 mkL_21 (k_0 hSh) hC rfl rfl (by decide) (by decide) (by decide) (Nat.le_of_ble_eq_true rfl) (fun E g' mi' ml' h => ?_) (fun v g' mi' ml' h => ?_)
  · obtain ⟨h1, h2, h3, h4⟩ := h
    cases x with
    | inl v => cases h1
    | inr j =>
      have hjj := hj j rfl
      cases h1
      match j, hjj with
      | 0, hjj => exact absurd hjj.2 (by decide)
      | 1, _ => exact ⟨1, hdL_book_1, h2, h3, rfl⟩
      | 2, hjj => exact absurd hjj.2 (by decide)
      | j + 3, hjj => exact absurd hjj.1 (by omega)
  · obtain ⟨h1, h2, h3, h4⟩ := h
    cases x with
    | inr j => cases h1
    | inl v' =>
      cases h1
      refine T_i2l dL_book_7 ?_
      refine T_last 0 dL_book_8 (k_450 (CI_Sh h2)) rfl (by decide) ?_
      refine T_goto 15 dL_book_9 (by decide) ?_
      refine T_iconst (v := nI 0) dL_book_15 (by decide) ?_
      exact T_iret dL_book_16 rfl ⟨CI_450 h2, h3, rfl, up2_s⟩
abbrev hhL_told : List (Nat × Nat × Nat × Nat) := [(0, 9, 12, 13)]
theorem hdL_told_1 : HDL mL_told hhL_told 4 xIAE 1 := ⟨[], ⟨0, 9, 12, 13⟩, [], _, rfl, (fun z hz => absurd hz List.not_mem_nil), by decide +kernel, by decide, clkL_13, by decide +kernel, rfl, Or.inl ⟨3, by decide, dL_told_12, dL_told_13, dL_told_14⟩⟩
set_option maxRecDepth 100000 in
theorem w_told (Γ : pTG) (g : pGG) (mi : pMI) (ml : pML) (hSh : Sh g) (A' : AS) (x : OUT) (hj : ∀ j, x = .inr j → j < 3 ∧ ¬ cd1 j = 0) (p0 : Int32) (hC : CT Γ 60 20 5000 mX11_told [.ref 0, .int p0] g mi ml (CQ A' x mi ml)) : CTH Γ 61 20 5000 mL_told hhL_told [.ref 0, .int p0, .ref 450] g mi ml (WQ A' x cd1 mi) := by
  refine CTH_of (by decide +kernel) (Nat.le_of_ble_eq_true rfl) ?_
  refine T_aload_n dL_told_0 rfl ?_
  refine T_iconst (v := nI 0) dL_told_1 (by decide) ?_
  refine T_aload_n dL_told_2 rfl ?_
  refine T_iload_n dL_told_3 rfl ?_
  refine T_callV (As := [.int p0]) (z := 0) dL_told_4 mkL_24 (k_0 hSh) hC rfl rfl (by decide) (by decide) (by decide) (Nat.le_of_ble_eq_true rfl) (fun E g' mi' ml' h => ?_) (fun v g' mi' ml' h => ?_)
  · obtain ⟨h1, h2, h3, h4⟩ := h
    cases x with
    | inl v => cases h1
    | inr j =>
      have hjj := hj j rfl
      cases h1
      match j, hjj with
      | 0, hjj => exact absurd hjj.2 (by decide)
      | 1, _ => exact ⟨1, hdL_told_1, h2, h3, rfl⟩
      | 2, hjj => exact absurd hjj.2 (by decide)
      | j + 3, hjj => exact absurd hjj.1 (by omega)
  · obtain ⟨h1, h2, h3, h4⟩ := h
    cases x with
    | inr j => cases h1
    | inl v' =>
      cases h1
      refine T_i2l dL_told_7 ?_
      refine T_last 0 dL_told_8 (k_450 (CI_Sh h2)) rfl (by decide) ?_
      refine T_goto 15 dL_told_9 (by decide) ?_
      refine T_iconst (v := nI 0) dL_told_15 (by decide) ?_
      exact T_iret dL_told_16 rfl ⟨CI_450 h2, h3, rfl, up2_s⟩
abbrev hhL_chair : List (Nat × Nat × Nat × Nat) := [(0, 10, 13, 19), (0, 10, 17, 13)]
theorem hdL_chair_0 : HDL mL_chair hhL_chair 5 xNSE 1 := ⟨[], ⟨0, 10, 13, 19⟩, [⟨0, 10, 17, 13⟩], _, rfl, (fun z hz => absurd hz List.not_mem_nil), by decide +kernel, by decide, clkL_19, by decide +kernel, rfl, Or.inr ⟨4, by decide, dL_chair_13, dL_chair_15, dL_chair_16⟩⟩
theorem hdL_chair_1 : HDL mL_chair hhL_chair 5 xIAE 2 := ⟨[⟨0, 10, 13, 19⟩], ⟨0, 10, 17, 13⟩, [], _, rfl, (fun z hz => by rw [List.mem_singleton] at hz; subst hz; exact ⟨by decide, _, clkL_19, by decide +kernel⟩), by decide +kernel, by decide, clkL_13, by decide +kernel, rfl, Or.inr ⟨4, by decide, dL_chair_17, dL_chair_19, dL_chair_20⟩⟩
set_option maxRecDepth 100000 in
theorem w_chair (Γ : pTG) (g : pGG) (mi : pMI) (ml : pML) (hSh : Sh g) (A' : AS) (x : OUT) (hj : ∀ j, x = .inr j → j < 3 ∧ ¬ cd2 j = 0) (p0 : Int32) (p1 : Int32) (hC : CT Γ 60 20 5000 mX11_chair [.ref 0, .int p0, .int p1] g mi ml (CQ A' x mi ml)) : CTH Γ 61 20 5000 mL_chair hhL_chair [.ref 0, .int p0, .int p1, .ref 450] g mi ml (WQ A' x cd2 mi) := by
  refine CTH_of (by decide +kernel) (Nat.le_of_ble_eq_true rfl) ?_
  refine T_aload_n dL_chair_0 rfl ?_
  refine T_iconst (v := nI 0) dL_chair_1 (by decide) ?_
  refine T_aload_n dL_chair_2 rfl ?_
  refine T_iload_n dL_chair_3 rfl ?_
  refine T_iload_n dL_chair_4 rfl ?_
  refine T_callV (As := [.int p0, .int p1]) (z := 0) dL_chair_5 mkL_27 (k_0 hSh) hC rfl rfl (by decide) (by decide) (by decide) (Nat.le_of_ble_eq_true rfl) (fun E g' mi' ml' h => ?_) (fun v g' mi' ml' h => ?_)
  · obtain ⟨h1, h2, h3, h4⟩ := h
    cases x with
    | inl v => cases h1
    | inr j =>
      have hjj := hj j rfl
      cases h1
      match j, hjj with
      | 0, _ => exact ⟨1, hdL_chair_0, h2, h3, rfl⟩
      | 1, _ => exact ⟨2, hdL_chair_1, h2, h3, rfl⟩
      | 2, hjj => exact absurd hjj.2 (by decide)
      | j + 3, hjj => exact absurd hjj.1 (by omega)
  · obtain ⟨h1, h2, h3, h4⟩ := h
    cases x with
    | inr j => cases h1
    | inl v' =>
      cases h1
      refine T_i2l dL_chair_8 ?_
      refine T_last 0 dL_chair_9 (k_450 (CI_Sh h2)) rfl (by decide) ?_
      refine T_goto 21 dL_chair_10 (by decide) ?_
      refine T_iconst (v := nI 0) dL_chair_21 (by decide) ?_
      exact T_iret dL_chair_22 rfl ⟨CI_450 h2, h3, rfl, up2_s⟩
abbrev hhL_guest : List (Nat × Nat × Nat × Nat) := [(0, 10, 13, 19), (0, 10, 17, 13)]
theorem hdL_guest_0 : HDL mL_guest hhL_guest 5 xNSE 1 := ⟨[], ⟨0, 10, 13, 19⟩, [⟨0, 10, 17, 13⟩], _, rfl, (fun z hz => absurd hz List.not_mem_nil), by decide +kernel, by decide, clkL_19, by decide +kernel, rfl, Or.inr ⟨4, by decide, dL_guest_13, dL_guest_15, dL_guest_16⟩⟩
theorem hdL_guest_1 : HDL mL_guest hhL_guest 5 xIAE 2 := ⟨[⟨0, 10, 13, 19⟩], ⟨0, 10, 17, 13⟩, [], _, rfl, (fun z hz => by rw [List.mem_singleton] at hz; subst hz; exact ⟨by decide, _, clkL_19, by decide +kernel⟩), by decide +kernel, by decide, clkL_13, by decide +kernel, rfl, Or.inr ⟨4, by decide, dL_guest_17, dL_guest_19, dL_guest_20⟩⟩
set_option maxRecDepth 100000 in
theorem w_guest (Γ : pTG) (g : pGG) (mi : pMI) (ml : pML) (hSh : Sh g) (A' : AS) (x : OUT) (hj : ∀ j, x = .inr j → j < 3 ∧ ¬ cd2 j = 0) (p0 : Int32) (p1 : Int32) (hC : CT Γ 60 20 5000 mX11_guest [.ref 0, .int p0, .int p1] g mi ml (CQ A' x mi ml)) : CTH Γ 61 20 5000 mL_guest hhL_guest [.ref 0, .int p0, .int p1, .ref 450] g mi ml (WQ A' x cd2 mi) := by
  refine CTH_of (by decide +kernel) (Nat.le_of_ble_eq_true rfl) ?_
  refine T_aload_n dL_guest_0 rfl ?_
  refine T_iconst (v := nI 0) dL_guest_1 (by decide) ?_
  refine T_aload_n dL_guest_2 rfl ?_
  refine T_iload_n dL_guest_3 rfl ?_
  refine T_iload_n dL_guest_4 rfl ?_
  refine T_callV (As := [.int p0, .int p1]) (z := 0) dL_guest_5 mkL_30 (k_0 hSh) hC rfl rfl (by decide) (by decide) (by decide) (Nat.le_of_ble_eq_true rfl) (fun E g' mi' ml' h => ?_) (fun v g' mi' ml' h => ?_)
  · obtain ⟨h1, h2, h3, h4⟩ := h
    cases x with
    | inl v => cases h1
    | inr j =>
      have hjj := hj j rfl
      cases h1
      match j, hjj with
      | 0, _ => exact ⟨1, hdL_guest_0, h2, h3, rfl⟩
      | 1, _ => exact ⟨2, hdL_guest_1, h2, h3, rfl⟩
      | 2, hjj => exact absurd hjj.2 (by decide)
      | j + 3, hjj => exact absurd hjj.1 (by omega)
  · obtain ⟨h1, h2, h3, h4⟩ := h
    cases x with
    | inr j => cases h1
    | inl v' =>
      cases h1
      refine T_i2l dL_guest_8 ?_
      refine T_last 0 dL_guest_9 (k_450 (CI_Sh h2)) rfl (by decide) ?_
      refine T_goto 21 dL_guest_10 (by decide) ?_
      refine T_iconst (v := nI 0) dL_guest_21 (by decide) ?_
      exact T_iret dL_guest_22 rfl ⟨CI_450 h2, h3, rfl, up2_s⟩
abbrev hhL_day : List (Nat × Nat × Nat × Nat) := [(0, 9, 12, 13)]
theorem hdL_day_1 : HDL mL_day hhL_day 4 xIAE 1 := ⟨[], ⟨0, 9, 12, 13⟩, [], _, rfl, (fun z hz => absurd hz List.not_mem_nil), by decide +kernel, by decide, clkL_13, by decide +kernel, rfl, Or.inl ⟨3, by decide, dL_day_12, dL_day_13, dL_day_14⟩⟩
set_option maxRecDepth 100000 in
theorem w_day (Γ : pTG) (g : pGG) (mi : pMI) (ml : pML) (hSh : Sh g) (A' : AS) (x : OUT) (hj : ∀ j, x = .inr j → j < 3 ∧ ¬ cd1 j = 0) (p0 : Int32) (hC : CT Γ 60 20 5000 mX11_day [.ref 0, .int p0] g mi ml (CQ A' x mi ml)) : CTH Γ 61 20 5000 mL_day hhL_day [.ref 0, .int p0, .ref 450] g mi ml (WQ A' x cd1 mi) := by
  refine CTH_of (by decide +kernel) (Nat.le_of_ble_eq_true rfl) ?_
  refine T_aload_n dL_day_0 rfl ?_
  refine T_iconst (v := nI 0) dL_day_1 (by decide) ?_
  refine T_aload_n dL_day_2 rfl ?_
  refine T_iload_n dL_day_3 rfl ?_
  refine T_callV (As := [.int p0]) (z := 0) dL_day_4 mkL_33 (k_0 hSh) hC rfl rfl (by decide) (by decide) (by decide) (Nat.le_of_ble_eq_true rfl) (fun E g' mi' ml' h => ?_) (fun v g' mi' ml' h => ?_)
  · obtain ⟨h1, h2, h3, h4⟩ := h
    cases x with
    | inl v => cases h1
    | inr j =>
      have hjj := hj j rfl
      cases h1
      match j, hjj with
      | 0, hjj => exact absurd hjj.2 (by decide)
      | 1, _ => exact ⟨1, hdL_day_1, h2, h3, rfl⟩
      | 2, hjj => exact absurd hjj.2 (by decide)
      | j + 3, hjj => exact absurd hjj.1 (by omega)
  · obtain ⟨h1, h2, h3, h4⟩ := h
    cases x with
    | inr j => cases h1
    | inl v' =>
      cases h1
      refine T_i2l dL_day_7 ?_
      refine T_last 0 dL_day_8 (k_450 (CI_Sh h2)) rfl (by decide) ?_
      refine T_goto 15 dL_day_9 (by decide) ?_
      refine T_iconst (v := nI 0) dL_day_15 (by decide) ?_
      exact T_iret dL_day_16 rfl ⟨CI_450 h2, h3, rfl, up2_s⟩
abbrev hhL_did : List (Nat × Nat × Nat × Nat) := [(0, 10, 13, 19), (0, 10, 17, 13)]
theorem hdL_did_0 : HDL mL_did hhL_did 5 xNSE 1 := ⟨[], ⟨0, 10, 13, 19⟩, [⟨0, 10, 17, 13⟩], _, rfl, (fun z hz => absurd hz List.not_mem_nil), by decide +kernel, by decide, clkL_19, by decide +kernel, rfl, Or.inr ⟨4, by decide, dL_did_13, dL_did_15, dL_did_16⟩⟩
theorem hdL_did_1 : HDL mL_did hhL_did 5 xIAE 2 := ⟨[⟨0, 10, 13, 19⟩], ⟨0, 10, 17, 13⟩, [], _, rfl, (fun z hz => by rw [List.mem_singleton] at hz; subst hz; exact ⟨by decide, _, clkL_19, by decide +kernel⟩), by decide +kernel, by decide, clkL_13, by decide +kernel, rfl, Or.inr ⟨4, by decide, dL_did_17, dL_did_19, dL_did_20⟩⟩
set_option maxRecDepth 100000 in
theorem w_did (Γ : pTG) (g : pGG) (mi : pMI) (ml : pML) (hSh : Sh g) (A' : AS) (x : OUT) (hj : ∀ j, x = .inr j → j < 3 ∧ ¬ cd2 j = 0) (p0 : Int32) (p1 : Int32) (hC : CT Γ 60 20 5000 mX11_did [.ref 0, .int p0, .int p1] g mi ml (CQ A' x mi ml)) : CTH Γ 61 20 5000 mL_did hhL_did [.ref 0, .int p0, .int p1, .ref 450] g mi ml (WQ A' x cd2 mi) := by
  refine CTH_of (by decide +kernel) (Nat.le_of_ble_eq_true rfl) ?_
  refine T_aload_n dL_did_0 rfl ?_
  refine T_iconst (v := nI 0) dL_did_1 (by decide) ?_
  refine T_aload_n dL_did_2 rfl ?_
  refine T_iload_n dL_did_3 rfl ?_
  refine T_iload_n dL_did_4 rfl ?_
  refine T_callV (As := [.int p0, .int p1]) (z := 0) dL_did_5 mkL_36 (k_0 hSh) hC rfl rfl (by decide) (by decide) (by decide) (Nat.le_of_ble_eq_true rfl) (fun E g' mi' ml' h => ?_) (fun v g' mi' ml' h => ?_)
  · obtain ⟨h1, h2, h3, h4⟩ := h
    cases x with
    | inl v => cases h1
    | inr j =>
      have hjj := hj j rfl
      cases h1
      match j, hjj with
      | 0, _ => exact ⟨1, hdL_did_0, h2, h3, rfl⟩
      | 1, _ => exact ⟨2, hdL_did_1, h2, h3, rfl⟩
      | 2, hjj => exact absurd hjj.2 (by decide)
      | j + 3, hjj => exact absurd hjj.1 (by omega)
  · obtain ⟨h1, h2, h3, h4⟩ := h
    cases x with
    | inr j => cases h1
    | inl v' =>
      cases h1
      refine T_i2l dL_did_8 ?_
      refine T_last 0 dL_did_9 (k_450 (CI_Sh h2)) rfl (by decide) ?_
      refine T_goto 21 dL_did_10 (by decide) ?_
      refine T_iconst (v := nI 0) dL_did_21 (by decide) ?_
      exact T_iret dL_did_22 rfl ⟨CI_450 h2, h3, rfl, up2_s⟩
abbrev hhL_towel : List (Nat × Nat × Nat × Nat) := [(0, 10, 13, 19), (0, 10, 17, 13)]
theorem hdL_towel_0 : HDL mL_towel hhL_towel 5 xNSE 1 := ⟨[], ⟨0, 10, 13, 19⟩, [⟨0, 10, 17, 13⟩], _, rfl, (fun z hz => absurd hz List.not_mem_nil), by decide +kernel, by decide, clkL_19, by decide +kernel, rfl, Or.inr ⟨4, by decide, dL_towel_13, dL_towel_15, dL_towel_16⟩⟩
theorem hdL_towel_1 : HDL mL_towel hhL_towel 5 xIAE 2 := ⟨[⟨0, 10, 13, 19⟩], ⟨0, 10, 17, 13⟩, [], _, rfl, (fun z hz => by rw [List.mem_singleton] at hz; subst hz; exact ⟨by decide, _, clkL_19, by decide +kernel⟩), by decide +kernel, by decide, clkL_13, by decide +kernel, rfl, Or.inr ⟨4, by decide, dL_towel_17, dL_towel_19, dL_towel_20⟩⟩
set_option maxRecDepth 100000 in
theorem w_towel (Γ : pTG) (g : pGG) (mi : pMI) (ml : pML) (hSh : Sh g) (A' : AS) (x : OUT) (hj : ∀ j, x = .inr j → j < 3 ∧ ¬ cd2 j = 0) (p0 : Int32) (p1 : Int32) (hC : CT Γ 60 20 5000 mX11_towel [.ref 0, .int p0, .int p1] g mi ml (CQ A' x mi ml)) : CTH Γ 61 20 5000 mL_towel hhL_towel [.ref 0, .int p0, .int p1, .ref 450] g mi ml (WQ A' x cd2 mi) := by
  refine CTH_of (by decide +kernel) (Nat.le_of_ble_eq_true rfl) ?_
  refine T_aload_n dL_towel_0 rfl ?_
  refine T_iconst (v := nI 0) dL_towel_1 (by decide) ?_
  refine T_aload_n dL_towel_2 rfl ?_
  refine T_iload_n dL_towel_3 rfl ?_
  refine T_iload_n dL_towel_4 rfl ?_
  refine T_callV (As := [.int p0, .int p1]) (z := 0) dL_towel_5 mkL_39 (k_0 hSh) hC rfl rfl (by decide) (by decide) (by decide) (Nat.le_of_ble_eq_true rfl) (fun E g' mi' ml' h => ?_) (fun v g' mi' ml' h => ?_)
  · obtain ⟨h1, h2, h3, h4⟩ := h
    cases x with
    | inl v => cases h1
    | inr j =>
      have hjj := hj j rfl
      cases h1
      match j, hjj with
      | 0, _ => exact ⟨1, hdL_towel_0, h2, h3, rfl⟩
      | 1, _ => exact ⟨2, hdL_towel_1, h2, h3, rfl⟩
      | 2, hjj => exact absurd hjj.2 (by decide)
      | j + 3, hjj => exact absurd hjj.1 (by omega)
  · obtain ⟨h1, h2, h3, h4⟩ := h
    cases x with
    | inr j => cases h1
    | inl v' =>
      cases h1
      refine T_i2l dL_towel_8 ?_
      refine T_last 0 dL_towel_9 (k_450 (CI_Sh h2)) rfl (by decide) ?_
      refine T_goto 21 dL_towel_10 (by decide) ?_
      refine T_iconst (v := nI 0) dL_towel_21 (by decide) ?_
      exact T_iret dL_towel_22 rfl ⟨CI_450 h2, h3, rfl, up2_s⟩
abbrev hhL_lies : List (Nat × Nat × Nat × Nat) := [(0, 10, 13, 19), (0, 10, 17, 13)]
theorem hdL_lies_0 : HDL mL_lies hhL_lies 5 xNSE 1 := ⟨[], ⟨0, 10, 13, 19⟩, [⟨0, 10, 17, 13⟩], _, rfl, (fun z hz => absurd hz List.not_mem_nil), by decide +kernel, by decide, clkL_19, by decide +kernel, rfl, Or.inr ⟨4, by decide, dL_lies_13, dL_lies_15, dL_lies_16⟩⟩
theorem hdL_lies_1 : HDL mL_lies hhL_lies 5 xIAE 2 := ⟨[⟨0, 10, 13, 19⟩], ⟨0, 10, 17, 13⟩, [], _, rfl, (fun z hz => by rw [List.mem_singleton] at hz; subst hz; exact ⟨by decide, _, clkL_19, by decide +kernel⟩), by decide +kernel, by decide, clkL_13, by decide +kernel, rfl, Or.inr ⟨4, by decide, dL_lies_17, dL_lies_19, dL_lies_20⟩⟩
set_option maxRecDepth 100000 in
theorem w_lies (Γ : pTG) (g : pGG) (mi : pMI) (ml : pML) (hSh : Sh g) (A' : AS) (x : OUT) (hj : ∀ j, x = .inr j → j < 3 ∧ ¬ cd2 j = 0) (p0 : Int32) (p1 : Int32) (hC : CT Γ 60 20 5000 mX11_lies [.ref 0, .int p0, .int p1] g mi ml (CQ A' x mi ml)) : CTH Γ 61 20 5000 mL_lies hhL_lies [.ref 0, .int p0, .int p1, .ref 450] g mi ml (WQ A' x cd2 mi) := by
  refine CTH_of (by decide +kernel) (Nat.le_of_ble_eq_true rfl) ?_
  refine T_aload_n dL_lies_0 rfl ?_
  refine T_iconst (v := nI 0) dL_lies_1 (by decide) ?_
  refine T_aload_n dL_lies_2 rfl ?_
  refine T_iload_n dL_lies_3 rfl ?_
  refine T_iload_n dL_lies_4 rfl ?_
  refine T_callV (As := [.int p0, .int p1]) (z := 0) dL_lies_5 mkL_42 (k_0 hSh) hC rfl rfl (by decide) (by decide) (by decide) (Nat.le_of_ble_eq_true rfl) (fun E g' mi' ml' h => ?_) (fun v g' mi' ml' h => ?_)
  · obtain ⟨h1, h2, h3, h4⟩ := h
    cases x with
    | inl v => cases h1
    | inr j =>
      have hjj := hj j rfl
      cases h1
      match j, hjj with
      | 0, _ => exact ⟨1, hdL_lies_0, h2, h3, rfl⟩
      | 1, _ => exact ⟨2, hdL_lies_1, h2, h3, rfl⟩
      | 2, hjj => exact absurd hjj.2 (by decide)
      | j + 3, hjj => exact absurd hjj.1 (by omega)
  · obtain ⟨h1, h2, h3, h4⟩ := h
    cases x with
    | inr j => cases h1
    | inl v' =>
      cases h1
      refine T_i2l dL_lies_8 ?_
      refine T_last 0 dL_lies_9 (k_450 (CI_Sh h2)) rfl (by decide) ?_
      refine T_goto 21 dL_lies_10 (by decide) ?_
      refine T_iconst (v := nI 0) dL_lies_21 (by decide) ?_
      exact T_iret dL_lies_22 rfl ⟨CI_450 h2, h3, rfl, up2_s⟩
abbrev hhL_waits : List (Nat × Nat × Nat × Nat) := [(0, 9, 12, 13)]
theorem hdL_waits_1 : HDL mL_waits hhL_waits 4 xIAE 1 := ⟨[], ⟨0, 9, 12, 13⟩, [], _, rfl, (fun z hz => absurd hz List.not_mem_nil), by decide +kernel, by decide, clkL_13, by decide +kernel, rfl, Or.inl ⟨3, by decide, dL_waits_12, dL_waits_13, dL_waits_14⟩⟩
set_option maxRecDepth 100000 in
theorem w_waits (Γ : pTG) (g : pGG) (mi : pMI) (ml : pML) (hSh : Sh g) (A' : AS) (x : OUT) (hj : ∀ j, x = .inr j → j < 3 ∧ ¬ cd1 j = 0) (p0 : Int32) (hC : CT Γ 60 20 5000 mX11_waits [.ref 0, .int p0] g mi ml (CQ A' x mi ml)) : CTH Γ 61 20 5000 mL_waits hhL_waits [.ref 0, .int p0, .ref 450] g mi ml (WQ A' x cd1 mi) := by
  refine CTH_of (by decide +kernel) (Nat.le_of_ble_eq_true rfl) ?_
  refine T_aload_n dL_waits_0 rfl ?_
  refine T_iconst (v := nI 0) dL_waits_1 (by decide) ?_
  refine T_aload_n dL_waits_2 rfl ?_
  refine T_iload_n dL_waits_3 rfl ?_
  refine T_callV (As := [.int p0]) (z := 0) dL_waits_4 mkL_45 (k_0 hSh) hC rfl rfl (by decide) (by decide) (by decide) (Nat.le_of_ble_eq_true rfl) (fun E g' mi' ml' h => ?_) (fun v g' mi' ml' h => ?_)
  · obtain ⟨h1, h2, h3, h4⟩ := h
    cases x with
    | inl v => cases h1
    | inr j =>
      have hjj := hj j rfl
      cases h1
      match j, hjj with
      | 0, hjj => exact absurd hjj.2 (by decide)
      | 1, _ => exact ⟨1, hdL_waits_1, h2, h3, rfl⟩
      | 2, hjj => exact absurd hjj.2 (by decide)
      | j + 3, hjj => exact absurd hjj.1 (by omega)
  · obtain ⟨h1, h2, h3, h4⟩ := h
    cases x with
    | inr j => cases h1
    | inl v' =>
      cases h1
      refine T_i2l dL_waits_7 ?_
      refine T_last 0 dL_waits_8 (k_450 (CI_Sh h2)) rfl (by decide) ?_
      refine T_goto 15 dL_waits_9 (by decide) ?_
      refine T_iconst (v := nI 0) dL_waits_15 (by decide) ?_
      exact T_iret dL_waits_16 rfl ⟨CI_450 h2, h3, rfl, up2_s⟩
abbrev hhL_sums : List (Nat × Nat × Nat × Nat) := [(0, 9, 12, 13)]
theorem hdL_sums_1 : HDL mL_sums hhL_sums 4 xIAE 1 := ⟨[], ⟨0, 9, 12, 13⟩, [], _, rfl, (fun z hz => absurd hz List.not_mem_nil), by decide +kernel, by decide, clkL_13, by decide +kernel, rfl, Or.inl ⟨3, by decide, dL_sums_12, dL_sums_13, dL_sums_14⟩⟩
set_option maxRecDepth 100000 in
theorem w_sums (Γ : pTG) (g : pGG) (mi : pMI) (ml : pML) (hSh : Sh g) (A' : AS) (x : OUT) (hj : ∀ j, x = .inr j → j < 3 ∧ ¬ cd1 j = 0) (p0 : Int32) (hC : CT Γ 60 20 5000 mX11_sums [.ref 0, .int p0] g mi ml (CQ A' x mi ml)) : CTH Γ 61 20 5000 mL_sums hhL_sums [.ref 0, .int p0, .ref 450] g mi ml (WQ A' x cd1 mi) := by
  refine CTH_of (by decide +kernel) (Nat.le_of_ble_eq_true rfl) ?_
  refine T_aload_n dL_sums_0 rfl ?_
  refine T_iconst (v := nI 0) dL_sums_1 (by decide) ?_
  refine T_aload_n dL_sums_2 rfl ?_
  refine T_iload_n dL_sums_3 rfl ?_
  refine T_callV (As := [.int p0]) (z := 0) dL_sums_4 mkL_48 (k_0 hSh) hC rfl rfl (by decide) (by decide) (by decide) (Nat.le_of_ble_eq_true rfl) (fun E g' mi' ml' h => ?_) (fun v g' mi' ml' h => ?_)
  · obtain ⟨h1, h2, h3, h4⟩ := h
    cases x with
    | inl v => cases h1
    | inr j =>
      have hjj := hj j rfl
      cases h1
      match j, hjj with
      | 0, hjj => exact absurd hjj.2 (by decide)
      | 1, _ => exact ⟨1, hdL_sums_1, h2, h3, rfl⟩
      | 2, hjj => exact absurd hjj.2 (by decide)
      | j + 3, hjj => exact absurd hjj.1 (by omega)
  · obtain ⟨h1, h2, h3, h4⟩ := h
    cases x with
    | inr j => cases h1
    | inl v' =>
      cases h1
      refine T_i2l dL_sums_7 ?_
      refine T_last 0 dL_sums_8 (k_450 (CI_Sh h2)) rfl (by decide) ?_
      refine T_goto 15 dL_sums_9 (by decide) ?_
      refine T_iconst (v := nI 0) dL_sums_15 (by decide) ?_
      exact T_iret dL_sums_16 rfl ⟨CI_450 h2, h3, rfl, up2_s⟩
abbrev hhL_worth : List (Nat × Nat × Nat × Nat) := [(0, 12, 15, 19), (0, 12, 19, 13)]
theorem hdL_worth_0 : HDL mL_worth hhL_worth 7 xNSE 1 := ⟨[], ⟨0, 12, 15, 19⟩, [⟨0, 12, 19, 13⟩], _, rfl, (fun z hz => absurd hz List.not_mem_nil), by decide +kernel, by decide, clkL_19, by decide +kernel, rfl, Or.inr ⟨5, by decide, dL_worth_15, dL_worth_17, dL_worth_18⟩⟩
theorem hdL_worth_1 : HDL mL_worth hhL_worth 7 xIAE 2 := ⟨[⟨0, 12, 15, 19⟩], ⟨0, 12, 19, 13⟩, [], _, rfl, (fun z hz => by rw [List.mem_singleton] at hz; subst hz; exact ⟨by decide, _, clkL_19, by decide +kernel⟩), by decide +kernel, by decide, clkL_13, by decide +kernel, rfl, Or.inr ⟨5, by decide, dL_worth_19, dL_worth_21, dL_worth_22⟩⟩
set_option maxRecDepth 100000 in
theorem w_worth (Γ : pTG) (g : pGG) (mi : pMI) (ml : pML) (hSh : Sh g) (A' : AS) (x : OUT) (hj : ∀ j, x = .inr j → j < 3 ∧ ¬ cd2 j = 0) (p0 : Int32) (p1 : Int32) (p2 : Int32) (hC : CT Γ 60 20 5000 mX11_worth [.ref 0, .int p0, .int p1, .int p2] g mi ml (CQ A' x mi ml)) : CTH Γ 61 20 5000 mL_worth hhL_worth [.ref 0, .int p0, .int p1, .int p2, .ref 450] g mi ml (WQ A' x cd2 mi) := by
  refine CTH_of (by decide +kernel) (Nat.le_of_ble_eq_true rfl) ?_
  refine T_aload dL_worth_0 rfl ?_
  refine T_iconst (v := nI 0) dL_worth_2 (by decide) ?_
  refine T_aload_n dL_worth_3 rfl ?_
  refine T_iload_n dL_worth_4 rfl ?_
  refine T_iload_n dL_worth_5 rfl ?_
  refine T_iload_n dL_worth_6 rfl ?_
  refine T_callV (As := [.int p0, .int p1, .int p2]) (z := 0) dL_worth_7 mkL_51 (k_0 hSh) hC rfl rfl (by decide) (by decide) (by decide) (Nat.le_of_ble_eq_true rfl) (fun E g' mi' ml' h => ?_) (fun v g' mi' ml' h => ?_)
  · obtain ⟨h1, h2, h3, h4⟩ := h
    cases x with
    | inl v => cases h1
    | inr j =>
      have hjj := hj j rfl
      cases h1
      match j, hjj with
      | 0, _ => exact ⟨1, hdL_worth_0, h2, h3, rfl⟩
      | 1, _ => exact ⟨2, hdL_worth_1, h2, h3, rfl⟩
      | 2, hjj => exact absurd hjj.2 (by decide)
      | j + 3, hjj => exact absurd hjj.1 (by omega)
  · obtain ⟨h1, h2, h3, h4⟩ := h
    cases x with
    | inr j => cases h1
    | inl v' =>
      cases h1
      refine T_i2l dL_worth_10 ?_
      refine T_last 0 dL_worth_11 (k_450 (CI_Sh h2)) rfl (by decide) ?_
      refine T_goto 23 dL_worth_12 (by decide) ?_
      refine T_iconst (v := nI 0) dL_worth_23 (by decide) ?_
      exact T_iret dL_worth_24 rfl ⟨CI_450 h2, h3, rfl, up2_s⟩
abbrev hhL_would : List (Nat × Nat × Nat × Nat) := [(0, 20, 23, 19), (0, 20, 27, 13)]
theorem hdL_would_0 : HDL mL_would hhL_would 15 xNSE 1 := ⟨[], ⟨0, 20, 23, 19⟩, [⟨0, 20, 27, 13⟩], _, rfl, (fun z hz => absurd hz List.not_mem_nil), by decide +kernel, by decide, clkL_19, by decide +kernel, rfl, Or.inr ⟨9, by decide, dL_would_23, dL_would_25, dL_would_26⟩⟩
theorem hdL_would_1 : HDL mL_would hhL_would 15 xIAE 2 := ⟨[⟨0, 20, 23, 19⟩], ⟨0, 20, 27, 13⟩, [], _, rfl, (fun z hz => by rw [List.mem_singleton] at hz; subst hz; exact ⟨by decide, _, clkL_19, by decide +kernel⟩), by decide +kernel, by decide, clkL_13, by decide +kernel, rfl, Or.inr ⟨9, by decide, dL_would_27, dL_would_29, dL_would_30⟩⟩
set_option maxRecDepth 100000 in
theorem w_would (Γ : pTG) (g : pGG) (mi : pMI) (ml : pML) (hSh : Sh g) (A' : AS) (x : OUT) (hj : ∀ j, x = .inr j → j < 3 ∧ ¬ cd2 j = 0) (p0 : Int32) (p1 : Int32) (p2 : Int32) (p3 : Int32) (p4 : Int32) (p5 : Int32) (p6 : Int32) (hC : CT Γ 60 20 5000 mX11_would [.ref 0, .int p0, .int p1, .int p2, .int p3, .int p4, .int p5, .int p6] g mi ml (CQ A' x mi ml)) : CTH Γ 61 20 5000 mL_would hhL_would [.ref 0, .int p0, .int p1, .int p2, .int p3, .int p4, .int p5, .int p6, .ref 450] g mi ml (WQ A' x cd2 mi) := by
  refine CTH_of (by decide +kernel) (Nat.le_of_ble_eq_true rfl) ?_
  refine T_aload dL_would_0 rfl ?_
  refine T_iconst (v := nI 0) dL_would_2 (by decide) ?_
  refine T_aload_n dL_would_3 rfl ?_
  refine T_iload_n dL_would_4 rfl ?_
  refine T_iload_n dL_would_5 rfl ?_
  refine T_iload_n dL_would_6 rfl ?_
  refine T_iload dL_would_7 rfl ?_
  refine T_iload dL_would_9 rfl ?_
  refine T_iload dL_would_11 rfl ?_
  refine T_iload dL_would_13 rfl ?_
  refine T_callV (As := [.int p0, .int p1, .int p2, .int p3, .int p4, .int p5, .int p6]) (z := 0) dL_would_15 mkL_55 (k_0 hSh) hC rfl rfl (by decide) (by decide) (by decide) (Nat.le_of_ble_eq_true rfl) (fun E g' mi' ml' h => ?_) (fun v g' mi' ml' h => ?_)
  · obtain ⟨h1, h2, h3, h4⟩ := h
    cases x with
    | inl v => cases h1
    | inr j =>
      have hjj := hj j rfl
      cases h1
      match j, hjj with
      | 0, _ => exact ⟨1, hdL_would_0, h2, h3, rfl⟩
      | 1, _ => exact ⟨2, hdL_would_1, h2, h3, rfl⟩
      | 2, hjj => exact absurd hjj.2 (by decide)
      | j + 3, hjj => exact absurd hjj.1 (by omega)
  · obtain ⟨h1, h2, h3, h4⟩ := h
    cases x with
    | inr j => cases h1
    | inl v' =>
      cases h1
      refine T_i2l dL_would_18 ?_
      refine T_last 0 dL_would_19 (k_450 (CI_Sh h2)) rfl (by decide) ?_
      refine T_goto 31 dL_would_20 (by decide) ?_
      refine T_iconst (v := nI 0) dL_would_31 (by decide) ?_
      exact T_iret dL_would_32 rfl ⟨CI_450 h2, h3, rfl, up2_s⟩
abbrev hhL_round : List (Nat × Nat × Nat × Nat) := [(0, 9, 12, 13)]
theorem hdL_round_1 : HDL mL_round hhL_round 4 xIAE 1 := ⟨[], ⟨0, 9, 12, 13⟩, [], _, rfl, (fun z hz => absurd hz List.not_mem_nil), by decide +kernel, by decide, clkL_13, by decide +kernel, rfl, Or.inl ⟨3, by decide, dL_round_12, dL_round_13, dL_round_14⟩⟩
set_option maxRecDepth 100000 in
theorem w_round (Γ : pTG) (g : pGG) (mi : pMI) (ml : pML) (hSh : Sh g) (A' : AS) (x : OUT) (hj : ∀ j, x = .inr j → j < 3 ∧ ¬ cd1 j = 0) (p0 : Int32) (hC : CT Γ 60 20 5000 mX11_round [.ref 0, .int p0] g mi ml (CQ A' x mi ml)) : CTH Γ 61 20 5000 mL_round hhL_round [.ref 0, .int p0, .ref 450] g mi ml (WQ A' x cd1 mi) := by
  refine CTH_of (by decide +kernel) (Nat.le_of_ble_eq_true rfl) ?_
  refine T_aload_n dL_round_0 rfl ?_
  refine T_iconst (v := nI 0) dL_round_1 (by decide) ?_
  refine T_aload_n dL_round_2 rfl ?_
  refine T_iload_n dL_round_3 rfl ?_
  refine T_callV (As := [.int p0]) (z := 0) dL_round_4 mkL_59 (k_0 hSh) hC rfl rfl (by decide) (by decide) (by decide) (Nat.le_of_ble_eq_true rfl) (fun E g' mi' ml' h => ?_) (fun v g' mi' ml' h => ?_)
  · obtain ⟨h1, h2, h3, h4⟩ := h
    cases x with
    | inl v => cases h1
    | inr j =>
      have hjj := hj j rfl
      cases h1
      match j, hjj with
      | 0, hjj => exact absurd hjj.2 (by decide)
      | 1, _ => exact ⟨1, hdL_round_1, h2, h3, rfl⟩
      | 2, hjj => exact absurd hjj.2 (by decide)
      | j + 3, hjj => exact absurd hjj.1 (by omega)
  · obtain ⟨h1, h2, h3, h4⟩ := h
    cases x with
    | inr j => cases h1
    | inl v' =>
      cases h1
      refine T_i2l dL_round_7 ?_
      refine T_last 0 dL_round_8 (k_450 (CI_Sh h2)) rfl (by decide) ?_
      refine T_goto 15 dL_round_9 (by decide) ?_
      refine T_iconst (v := nI 0) dL_round_15 (by decide) ?_
      exact T_iret dL_round_16 rfl ⟨CI_450 h2, h3, rfl, up2_s⟩
abbrev hhL_out : List (Nat × Nat × Nat × Nat) := [(0, 9, 12, 19)]
theorem hdL_out_0 : HDL mL_out hhL_out 4 xNSE 1 := ⟨[], ⟨0, 9, 12, 19⟩, [], _, rfl, (fun z hz => absurd hz List.not_mem_nil), by decide +kernel, by decide, clkL_19, by decide +kernel, rfl, Or.inl ⟨3, by decide, dL_out_12, dL_out_13, dL_out_14⟩⟩
set_option maxRecDepth 100000 in
theorem w_out (Γ : pTG) (g : pGG) (mi : pMI) (ml : pML) (hSh : Sh g) (A' : AS) (x : OUT) (hj : ∀ j, x = .inr j → j < 3 ∧ ¬ cd0 j = 0) (p0 : Int32) (hC : CT Γ 60 20 5000 mX11_out [.ref 0, .int p0] g mi ml (CQ A' x mi ml)) : CTH Γ 61 20 5000 mL_out hhL_out [.ref 0, .int p0, .ref 450] g mi ml (WQ A' x cd0 mi) := by
  refine CTH_of (by decide +kernel) (Nat.le_of_ble_eq_true rfl) ?_
  refine T_aload_n dL_out_0 rfl ?_
  refine T_iconst (v := nI 0) dL_out_1 (by decide) ?_
  refine T_aload_n dL_out_2 rfl ?_
  refine T_iload_n dL_out_3 rfl ?_
  refine T_callV (As := [.int p0]) (z := 0) dL_out_4 mkL_62 (k_0 hSh) hC rfl rfl (by decide) (by decide) (by decide) (Nat.le_of_ble_eq_true rfl) (fun E g' mi' ml' h => ?_) (fun v g' mi' ml' h => ?_)
  · obtain ⟨h1, h2, h3, h4⟩ := h
    cases x with
    | inl v => cases h1
    | inr j =>
      have hjj := hj j rfl
      cases h1
      match j, hjj with
      | 0, _ => exact ⟨1, hdL_out_0, h2, h3, rfl⟩
      | 1, hjj => exact absurd hjj.2 (by decide)
      | 2, hjj => exact absurd hjj.2 (by decide)
      | j + 3, hjj => exact absurd hjj.1 (by omega)
  · obtain ⟨h1, h2, h3, h4⟩ := h
    cases x with
    | inr j => cases h1
    | inl v' =>
      cases h1
      refine T_i2l dL_out_7 ?_
      refine T_last 0 dL_out_8 (k_450 (CI_Sh h2)) rfl (by decide) ?_
      refine T_goto 15 dL_out_9 (by decide) ?_
      refine T_iconst (v := nI 0) dL_out_15 (by decide) ?_
      exact T_iret dL_out_16 rfl ⟨CI_450 h2, h3, rfl, up2_s⟩
abbrev hhL_had : List (Nat × Nat × Nat × Nat) := [(0, 10, 13, 19), (0, 10, 17, 13)]
theorem hdL_had_0 : HDL mL_had hhL_had 5 xNSE 1 := ⟨[], ⟨0, 10, 13, 19⟩, [⟨0, 10, 17, 13⟩], _, rfl, (fun z hz => absurd hz List.not_mem_nil), by decide +kernel, by decide, clkL_19, by decide +kernel, rfl, Or.inr ⟨4, by decide, dL_had_13, dL_had_15, dL_had_16⟩⟩
theorem hdL_had_1 : HDL mL_had hhL_had 5 xIAE 2 := ⟨[⟨0, 10, 13, 19⟩], ⟨0, 10, 17, 13⟩, [], _, rfl, (fun z hz => by rw [List.mem_singleton] at hz; subst hz; exact ⟨by decide, _, clkL_19, by decide +kernel⟩), by decide +kernel, by decide, clkL_13, by decide +kernel, rfl, Or.inr ⟨4, by decide, dL_had_17, dL_had_19, dL_had_20⟩⟩
set_option maxRecDepth 100000 in
theorem w_had (Γ : pTG) (g : pGG) (mi : pMI) (ml : pML) (hSh : Sh g) (A' : AS) (x : OUT) (hj : ∀ j, x = .inr j → j < 3 ∧ ¬ cd2 j = 0) (p0 : Int32) (p1 : Int32) (hC : CT Γ 60 20 5000 mX11_had [.ref 0, .int p0, .int p1] g mi ml (CQ A' x mi ml)) : CTH Γ 61 20 5000 mL_had hhL_had [.ref 0, .int p0, .int p1, .ref 450] g mi ml (WQ A' x cd2 mi) := by
  refine CTH_of (by decide +kernel) (Nat.le_of_ble_eq_true rfl) ?_
  refine T_aload_n dL_had_0 rfl ?_
  refine T_iconst (v := nI 0) dL_had_1 (by decide) ?_
  refine T_aload_n dL_had_2 rfl ?_
  refine T_iload_n dL_had_3 rfl ?_
  refine T_iload_n dL_had_4 rfl ?_
  refine T_callV (As := [.int p0, .int p1]) (z := 0) dL_had_5 mkL_65 (k_0 hSh) hC rfl rfl (by decide) (by decide) (by decide) (Nat.le_of_ble_eq_true rfl) (fun E g' mi' ml' h => ?_) (fun v g' mi' ml' h => ?_)
  · obtain ⟨h1, h2, h3, h4⟩ := h
    cases x with
    | inl v => cases h1
    | inr j =>
      have hjj := hj j rfl
      cases h1
      match j, hjj with
      | 0, _ => exact ⟨1, hdL_had_0, h2, h3, rfl⟩
      | 1, _ => exact ⟨2, hdL_had_1, h2, h3, rfl⟩
      | 2, hjj => exact absurd hjj.2 (by decide)
      | j + 3, hjj => exact absurd hjj.1 (by omega)
  · obtain ⟨h1, h2, h3, h4⟩ := h
    cases x with
    | inr j => cases h1
    | inl v' =>
      cases h1
      refine T_i2l dL_had_8 ?_
      refine T_last 0 dL_had_9 (k_450 (CI_Sh h2)) rfl (by decide) ?_
      refine T_goto 21 dL_had_10 (by decide) ?_
      refine T_iconst (v := nI 0) dL_had_21 (by decide) ?_
      exact T_iret dL_had_22 rfl ⟨CI_450 h2, h3, rfl, up2_s⟩
abbrev hhL_still : List (Nat × Nat × Nat × Nat) := [(0, 10, 13, 13), (0, 10, 17, 71)]
theorem hdL_still_1 : HDL mL_still hhL_still 5 xIAE 1 := ⟨[], ⟨0, 10, 13, 13⟩, [⟨0, 10, 17, 71⟩], _, rfl, (fun z hz => absurd hz List.not_mem_nil), by decide +kernel, by decide, clkL_13, by decide +kernel, rfl, Or.inr ⟨4, by decide, dL_still_13, dL_still_15, dL_still_16⟩⟩
theorem hdL_still_2 : HDL mL_still hhL_still 5 xISE 2 := ⟨[⟨0, 10, 13, 13⟩], ⟨0, 10, 17, 71⟩, [], _, rfl, (fun z hz => by rw [List.mem_singleton] at hz; subst hz; exact ⟨by decide, _, clkL_13, by decide +kernel⟩), by decide +kernel, by decide, clkL_71, by decide +kernel, rfl, Or.inr ⟨4, by decide, dL_still_17, dL_still_19, dL_still_20⟩⟩
set_option maxRecDepth 100000 in
theorem w_still (Γ : pTG) (g : pGG) (mi : pMI) (ml : pML) (hSh : Sh g) (A' : AS) (x : OUT) (hj : ∀ j, x = .inr j → j < 3 ∧ ¬ cd3 j = 0) (p0 : Int32) (p1 : Int32) (hC : CT Γ 60 20 5000 mX11_still [.ref 0, .int p0, .int p1] g mi ml (CQ A' x mi ml)) : CTH Γ 61 20 5000 mL_still hhL_still [.ref 0, .int p0, .int p1, .ref 450] g mi ml (WQ A' x cd3 mi) := by
  refine CTH_of (by decide +kernel) (Nat.le_of_ble_eq_true rfl) ?_
  refine T_aload_n dL_still_0 rfl ?_
  refine T_iconst (v := nI 0) dL_still_1 (by decide) ?_
  refine T_aload_n dL_still_2 rfl ?_
  refine T_iload_n dL_still_3 rfl ?_
  refine T_iload_n dL_still_4 rfl ?_
  refine T_callV (As := [.int p0, .int p1]) (z := 0) dL_still_5 mkL_68 (k_0 hSh) hC rfl rfl (by decide) (by decide) (by decide) (Nat.le_of_ble_eq_true rfl) (fun E g' mi' ml' h => ?_) (fun v g' mi' ml' h => ?_)
  · obtain ⟨h1, h2, h3, h4⟩ := h
    cases x with
    | inl v => cases h1
    | inr j =>
      have hjj := hj j rfl
      cases h1
      match j, hjj with
      | 0, hjj => exact absurd hjj.2 (by decide)
      | 1, _ => exact ⟨1, hdL_still_1, h2, h3, rfl⟩
      | 2, _ => exact ⟨2, hdL_still_2, h2, h3, rfl⟩
      | j + 3, hjj => exact absurd hjj.1 (by omega)
  · obtain ⟨h1, h2, h3, h4⟩ := h
    cases x with
    | inr j => cases h1
    | inl v' =>
      cases h1
      refine T_i2l dL_still_8 ?_
      refine T_last 0 dL_still_9 (k_450 (CI_Sh h2)) rfl (by decide) ?_
      refine T_goto 21 dL_still_10 (by decide) ?_
      refine T_iconst (v := nI 0) dL_still_21 (by decide) ?_
      exact T_iret dL_still_22 rfl ⟨CI_450 h2, h3, rfl, up2_s⟩
abbrev hhL_net : List (Nat × Nat × Nat × Nat) := [(0, 10, 13, 19), (0, 10, 17, 13)]
theorem hdL_net_0 : HDL mL_net hhL_net 5 xNSE 1 := ⟨[], ⟨0, 10, 13, 19⟩, [⟨0, 10, 17, 13⟩], _, rfl, (fun z hz => absurd hz List.not_mem_nil), by decide +kernel, by decide, clkL_19, by decide +kernel, rfl, Or.inr ⟨4, by decide, dL_net_13, dL_net_15, dL_net_16⟩⟩
theorem hdL_net_1 : HDL mL_net hhL_net 5 xIAE 2 := ⟨[⟨0, 10, 13, 19⟩], ⟨0, 10, 17, 13⟩, [], _, rfl, (fun z hz => by rw [List.mem_singleton] at hz; subst hz; exact ⟨by decide, _, clkL_19, by decide +kernel⟩), by decide +kernel, by decide, clkL_13, by decide +kernel, rfl, Or.inr ⟨4, by decide, dL_net_17, dL_net_19, dL_net_20⟩⟩
set_option maxRecDepth 100000 in
theorem w_net (Γ : pTG) (g : pGG) (mi : pMI) (ml : pML) (hSh : Sh g) (A' : AS) (x : OUT) (hj : ∀ j, x = .inr j → j < 3 ∧ ¬ cd2 j = 0) (p0 : Int32) (p1 : Int32) (hC : CT Γ 60 20 5000 mX11_net [.ref 0, .int p0, .int p1] g mi ml (CQ A' x mi ml)) : CTH Γ 61 20 5000 mL_net hhL_net [.ref 0, .int p0, .int p1, .ref 450] g mi ml (WQ A' x cd2 mi) := by
  refine CTH_of (by decide +kernel) (Nat.le_of_ble_eq_true rfl) ?_
  refine T_aload_n dL_net_0 rfl ?_
  refine T_iconst (v := nI 0) dL_net_1 (by decide) ?_
  refine T_aload_n dL_net_2 rfl ?_
  refine T_iload_n dL_net_3 rfl ?_
  refine T_iload_n dL_net_4 rfl ?_
  refine T_callV (As := [.int p0, .int p1]) (z := 0) dL_net_5 mkL_73 (k_0 hSh) hC rfl rfl (by decide) (by decide) (by decide) (Nat.le_of_ble_eq_true rfl) (fun E g' mi' ml' h => ?_) (fun v g' mi' ml' h => ?_)
  · obtain ⟨h1, h2, h3, h4⟩ := h
    cases x with
    | inl v => cases h1
    | inr j =>
      have hjj := hj j rfl
      cases h1
      match j, hjj with
      | 0, _ => exact ⟨1, hdL_net_0, h2, h3, rfl⟩
      | 1, _ => exact ⟨2, hdL_net_1, h2, h3, rfl⟩
      | 2, hjj => exact absurd hjj.2 (by decide)
      | j + 3, hjj => exact absurd hjj.1 (by omega)
  · obtain ⟨h1, h2, h3, h4⟩ := h
    cases x with
    | inr j => cases h1
    | inl v' =>
      cases h1
      refine T_i2l dL_net_8 ?_
      refine T_last 0 dL_net_9 (k_450 (CI_Sh h2)) rfl (by decide) ?_
      refine T_goto 21 dL_net_10 (by decide) ?_
      refine T_iconst (v := nI 0) dL_net_21 (by decide) ?_
      exact T_iret dL_net_22 rfl ⟨CI_450 h2, h3, rfl, up2_s⟩
abbrev hhL_gets : List (Nat × Nat × Nat × Nat) := [(0, 9, 12, 19)]
theorem hdL_gets_0 : HDL mL_gets hhL_gets 4 xNSE 1 := ⟨[], ⟨0, 9, 12, 19⟩, [], _, rfl, (fun z hz => absurd hz List.not_mem_nil), by decide +kernel, by decide, clkL_19, by decide +kernel, rfl, Or.inl ⟨3, by decide, dL_gets_12, dL_gets_13, dL_gets_14⟩⟩
set_option maxRecDepth 100000 in
theorem w_gets (Γ : pTG) (g : pGG) (mi : pMI) (ml : pML) (hSh : Sh g) (A' : AS) (x : OUT) (hj : ∀ j, x = .inr j → j < 3 ∧ ¬ cd0 j = 0) (p0 : Int32) (hC : CT Γ 60 20 5000 mX11_gets [.ref 0, .int p0] g mi ml (CQ A' x mi ml)) : CTH Γ 61 20 5000 mL_gets hhL_gets [.ref 0, .int p0, .ref 450] g mi ml (WQ A' x cd0 mi) := by
  refine CTH_of (by decide +kernel) (Nat.le_of_ble_eq_true rfl) ?_
  refine T_aload_n dL_gets_0 rfl ?_
  refine T_iconst (v := nI 0) dL_gets_1 (by decide) ?_
  refine T_aload_n dL_gets_2 rfl ?_
  refine T_iload_n dL_gets_3 rfl ?_
  refine T_callV (As := [.int p0]) (z := 0) dL_gets_4 mkL_76 (k_0 hSh) hC rfl rfl (by decide) (by decide) (by decide) (Nat.le_of_ble_eq_true rfl) (fun E g' mi' ml' h => ?_) (fun v g' mi' ml' h => ?_)
  · obtain ⟨h1, h2, h3, h4⟩ := h
    cases x with
    | inl v => cases h1
    | inr j =>
      have hjj := hj j rfl
      cases h1
      match j, hjj with
      | 0, _ => exact ⟨1, hdL_gets_0, h2, h3, rfl⟩
      | 1, hjj => exact absurd hjj.2 (by decide)
      | 2, hjj => exact absurd hjj.2 (by decide)
      | j + 3, hjj => exact absurd hjj.1 (by omega)
  · obtain ⟨h1, h2, h3, h4⟩ := h
    cases x with
    | inr j => cases h1
    | inl v' =>
      cases h1
      refine T_i2l dL_gets_7 ?_
      refine T_last 0 dL_gets_8 (k_450 (CI_Sh h2)) rfl (by decide) ?_
      refine T_goto 15 dL_gets_9 (by decide) ?_
      refine T_iconst (v := nI 0) dL_gets_15 (by decide) ?_
      exact T_iret dL_gets_16 rfl ⟨CI_450 h2, h3, rfl, up2_s⟩
abbrev hhL_more : List (Nat × Nat × Nat × Nat) := [(0, 10, 13, 13)]
theorem hdL_more_1 : HDL mL_more hhL_more 5 xIAE 1 := ⟨[], ⟨0, 10, 13, 13⟩, [], _, rfl, (fun z hz => absurd hz List.not_mem_nil), by decide +kernel, by decide, clkL_13, by decide +kernel, rfl, Or.inr ⟨4, by decide, dL_more_13, dL_more_15, dL_more_16⟩⟩
set_option maxRecDepth 100000 in
theorem w_more (Γ : pTG) (g : pGG) (mi : pMI) (ml : pML) (hSh : Sh g) (A' : AS) (x : OUT) (hj : ∀ j, x = .inr j → j < 3 ∧ ¬ cd1 j = 0) (p0 : Int32) (p1 : Int32) (hC : CT Γ 60 20 5000 mX11_more [.ref 0, .int p0, .int p1] g mi ml (CQ A' x mi ml)) : CTH Γ 61 20 5000 mL_more hhL_more [.ref 0, .int p0, .int p1, .ref 450] g mi ml (WQ A' x cd1 mi) := by
  refine CTH_of (by decide +kernel) (Nat.le_of_ble_eq_true rfl) ?_
  refine T_aload_n dL_more_0 rfl ?_
  refine T_iconst (v := nI 0) dL_more_1 (by decide) ?_
  refine T_aload_n dL_more_2 rfl ?_
  refine T_iload_n dL_more_3 rfl ?_
  refine T_iload_n dL_more_4 rfl ?_
  refine T_callV (As := [.int p0, .int p1]) (z := 0) dL_more_5 mkL_79 (k_0 hSh) hC rfl rfl (by decide) (by decide) (by decide) (Nat.le_of_ble_eq_true rfl) (fun E g' mi' ml' h => ?_) (fun v g' mi' ml' h => ?_)
  · obtain ⟨h1, h2, h3, h4⟩ := h
    cases x with
    | inl v => cases h1
    | inr j =>
      have hjj := hj j rfl
      cases h1
      match j, hjj with
      | 0, hjj => exact absurd hjj.2 (by decide)
      | 1, _ => exact ⟨1, hdL_more_1, h2, h3, rfl⟩
      | 2, hjj => exact absurd hjj.2 (by decide)
      | j + 3, hjj => exact absurd hjj.1 (by omega)
  · obtain ⟨h1, h2, h3, h4⟩ := h
    cases x with
    | inr j => cases h1
    | inl v' =>
      cases h1
      refine T_i2l dL_more_8 ?_
      refine T_last 0 dL_more_9 (k_450 (CI_Sh h2)) rfl (by decide) ?_
      refine T_goto 17 dL_more_10 (by decide) ?_
      refine T_iconst (v := nI 0) dL_more_17 (by decide) ?_
      exact T_iret dL_more_18 rfl ⟨CI_450 h2, h3, rfl, up2_s⟩
abbrev hhL_want : List (Nat × Nat × Nat × Nat) := [(0, 9, 12, 13)]
theorem hdL_want_1 : HDL mL_want hhL_want 4 xIAE 1 := ⟨[], ⟨0, 9, 12, 13⟩, [], _, rfl, (fun z hz => absurd hz List.not_mem_nil), by decide +kernel, by decide, clkL_13, by decide +kernel, rfl, Or.inl ⟨3, by decide, dL_want_12, dL_want_13, dL_want_14⟩⟩
set_option maxRecDepth 100000 in
theorem w_want (Γ : pTG) (g : pGG) (mi : pMI) (ml : pML) (hSh : Sh g) (A' : AS) (x : OUT) (hj : ∀ j, x = .inr j → j < 3 ∧ ¬ cd1 j = 0) (p0 : Int32) (hC : CT Γ 60 20 5000 mX11_want [.ref 0, .int p0] g mi ml (CQ A' x mi ml)) : CTH Γ 61 20 5000 mL_want hhL_want [.ref 0, .int p0, .ref 450] g mi ml (WQ A' x cd1 mi) := by
  refine CTH_of (by decide +kernel) (Nat.le_of_ble_eq_true rfl) ?_
  refine T_aload_n dL_want_0 rfl ?_
  refine T_iconst (v := nI 0) dL_want_1 (by decide) ?_
  refine T_aload_n dL_want_2 rfl ?_
  refine T_iload_n dL_want_3 rfl ?_
  refine T_callV (As := [.int p0]) (z := 0) dL_want_4 mkL_82 (k_0 hSh) hC rfl rfl (by decide) (by decide) (by decide) (Nat.le_of_ble_eq_true rfl) (fun E g' mi' ml' h => ?_) (fun v g' mi' ml' h => ?_)
  · obtain ⟨h1, h2, h3, h4⟩ := h
    cases x with
    | inl v => cases h1
    | inr j =>
      have hjj := hj j rfl
      cases h1
      match j, hjj with
      | 0, hjj => exact absurd hjj.2 (by decide)
      | 1, _ => exact ⟨1, hdL_want_1, h2, h3, rfl⟩
      | 2, hjj => exact absurd hjj.2 (by decide)
      | j + 3, hjj => exact absurd hjj.1 (by omega)
  · obtain ⟨h1, h2, h3, h4⟩ := h
    cases x with
    | inr j => cases h1
    | inl v' =>
      cases h1
      refine T_i2l dL_want_7 ?_
      refine T_last 0 dL_want_8 (k_450 (CI_Sh h2)) rfl (by decide) ?_
      refine T_goto 15 dL_want_9 (by decide) ?_
      refine T_iconst (v := nI 0) dL_want_15 (by decide) ?_
      exact T_iret dL_want_16 rfl ⟨CI_450 h2, h3, rfl, up2_s⟩
abbrev hhL_just : List (Nat × Nat × Nat × Nat) := [(0, 9, 12, 13)]
theorem hdL_just_1 : HDL mL_just hhL_just 4 xIAE 1 := ⟨[], ⟨0, 9, 12, 13⟩, [], _, rfl, (fun z hz => absurd hz List.not_mem_nil), by decide +kernel, by decide, clkL_13, by decide +kernel, rfl, Or.inl ⟨3, by decide, dL_just_12, dL_just_13, dL_just_14⟩⟩
set_option maxRecDepth 100000 in
theorem w_just (Γ : pTG) (g : pGG) (mi : pMI) (ml : pML) (hSh : Sh g) (A' : AS) (x : OUT) (hj : ∀ j, x = .inr j → j < 3 ∧ ¬ cd1 j = 0) (p0 : Int32) (hC : CT Γ 60 20 5000 mX11_just [.ref 0, .int p0] g mi ml (CQ A' x mi ml)) : CTH Γ 61 20 5000 mL_just hhL_just [.ref 0, .int p0, .ref 450] g mi ml (WQ A' x cd1 mi) := by
  refine CTH_of (by decide +kernel) (Nat.le_of_ble_eq_true rfl) ?_
  refine T_aload_n dL_just_0 rfl ?_
  refine T_iconst (v := nI 0) dL_just_1 (by decide) ?_
  refine T_aload_n dL_just_2 rfl ?_
  refine T_iload_n dL_just_3 rfl ?_
  refine T_callV (As := [.int p0]) (z := 0) dL_just_4 mkL_85 (k_0 hSh) hC rfl rfl (by decide) (by decide) (by decide) (Nat.le_of_ble_eq_true rfl) (fun E g' mi' ml' h => ?_) (fun v g' mi' ml' h => ?_)
  · obtain ⟨h1, h2, h3, h4⟩ := h
    cases x with
    | inl v => cases h1
    | inr j =>
      have hjj := hj j rfl
      cases h1
      match j, hjj with
      | 0, hjj => exact absurd hjj.2 (by decide)
      | 1, _ => exact ⟨1, hdL_just_1, h2, h3, rfl⟩
      | 2, hjj => exact absurd hjj.2 (by decide)
      | j + 3, hjj => exact absurd hjj.1 (by omega)
  · obtain ⟨h1, h2, h3, h4⟩ := h
    cases x with
    | inr j => cases h1
    | inl v' =>
      cases h1
      refine T_i2l dL_just_7 ?_
      refine T_last 0 dL_just_8 (k_450 (CI_Sh h2)) rfl (by decide) ?_
      refine T_goto 15 dL_just_9 (by decide) ?_
      refine T_iconst (v := nI 0) dL_just_15 (by decide) ?_
      exact T_iret dL_just_16 rfl ⟨CI_450 h2, h3, rfl, up2_s⟩
abbrev hhL_off : List (Nat × Nat × Nat × Nat) := [(0, 9, 12, 13)]
theorem hdL_off_1 : HDL mL_off hhL_off 4 xIAE 1 := ⟨[], ⟨0, 9, 12, 13⟩, [], _, rfl, (fun z hz => absurd hz List.not_mem_nil), by decide +kernel, by decide, clkL_13, by decide +kernel, rfl, Or.inl ⟨3, by decide, dL_off_12, dL_off_13, dL_off_14⟩⟩
set_option maxRecDepth 100000 in
theorem w_off (Γ : pTG) (g : pGG) (mi : pMI) (ml : pML) (hSh : Sh g) (A' : AS) (x : OUT) (hj : ∀ j, x = .inr j → j < 3 ∧ ¬ cd1 j = 0) (p0 : Int32) (hC : CT Γ 60 20 5000 mX11_off [.ref 0, .int p0] g mi ml (CQ A' x mi ml)) : CTH Γ 61 20 5000 mL_off hhL_off [.ref 0, .int p0, .ref 450] g mi ml (WQ A' x cd1 mi) := by
  refine CTH_of (by decide +kernel) (Nat.le_of_ble_eq_true rfl) ?_
  refine T_aload_n dL_off_0 rfl ?_
  refine T_iconst (v := nI 0) dL_off_1 (by decide) ?_
  refine T_aload_n dL_off_2 rfl ?_
  refine T_iload_n dL_off_3 rfl ?_
  refine T_callV (As := [.int p0]) (z := 0) dL_off_4 mkL_88 (k_0 hSh) hC rfl rfl (by decide) (by decide) (by decide) (Nat.le_of_ble_eq_true rfl) (fun E g' mi' ml' h => ?_) (fun v g' mi' ml' h => ?_)
  · obtain ⟨h1, h2, h3, h4⟩ := h
    cases x with
    | inl v => cases h1
    | inr j =>
      have hjj := hj j rfl
      cases h1
      match j, hjj with
      | 0, hjj => exact absurd hjj.2 (by decide)
      | 1, _ => exact ⟨1, hdL_off_1, h2, h3, rfl⟩
      | 2, hjj => exact absurd hjj.2 (by decide)
      | j + 3, hjj => exact absurd hjj.1 (by omega)
  · obtain ⟨h1, h2, h3, h4⟩ := h
    cases x with
    | inr j => cases h1
    | inl v' =>
      cases h1
      refine T_i2l dL_off_7 ?_
      refine T_last 0 dL_off_8 (k_450 (CI_Sh h2)) rfl (by decide) ?_
      refine T_goto 15 dL_off_9 (by decide) ?_
      refine T_iconst (v := nI 0) dL_off_15 (by decide) ?_
      exact T_iret dL_off_16 rfl ⟨CI_450 h2, h3, rfl, up2_s⟩
abbrev hhL_turnsOf : List (Nat × Nat × Nat × Nat) := [(0, 9, 12, 13)]
theorem hdL_turnsOf_1 : HDL mL_turnsOf hhL_turnsOf 4 xIAE 1 := ⟨[], ⟨0, 9, 12, 13⟩, [], _, rfl, (fun z hz => absurd hz List.not_mem_nil), by decide +kernel, by decide, clkL_13, by decide +kernel, rfl, Or.inl ⟨3, by decide, dL_turnsOf_12, dL_turnsOf_13, dL_turnsOf_14⟩⟩
set_option maxRecDepth 100000 in
theorem w_turnsOf (Γ : pTG) (g : pGG) (mi : pMI) (ml : pML) (hSh : Sh g) (A' : AS) (x : OUT) (hj : ∀ j, x = .inr j → j < 3 ∧ ¬ cd1 j = 0) (p0 : Int32) (hC : CT Γ 60 20 5000 mX11_turnsOf [.ref 0, .int p0] g mi ml (CQ A' x mi ml)) : CTH Γ 61 20 5000 mL_turnsOf hhL_turnsOf [.ref 0, .int p0, .ref 450] g mi ml (WQ A' x cd1 mi) := by
  refine CTH_of (by decide +kernel) (Nat.le_of_ble_eq_true rfl) ?_
  refine T_aload_n dL_turnsOf_0 rfl ?_
  refine T_iconst (v := nI 0) dL_turnsOf_1 (by decide) ?_
  refine T_aload_n dL_turnsOf_2 rfl ?_
  refine T_iload_n dL_turnsOf_3 rfl ?_
  refine T_callV (As := [.int p0]) (z := 0) dL_turnsOf_4 mkL_91 (k_0 hSh) hC rfl rfl (by decide) (by decide) (by decide) (Nat.le_of_ble_eq_true rfl) (fun E g' mi' ml' h => ?_) (fun v g' mi' ml' h => ?_)
  · obtain ⟨h1, h2, h3, h4⟩ := h
    cases x with
    | inl v => cases h1
    | inr j =>
      have hjj := hj j rfl
      cases h1
      match j, hjj with
      | 0, hjj => exact absurd hjj.2 (by decide)
      | 1, _ => exact ⟨1, hdL_turnsOf_1, h2, h3, rfl⟩
      | 2, hjj => exact absurd hjj.2 (by decide)
      | j + 3, hjj => exact absurd hjj.1 (by omega)
  · obtain ⟨h1, h2, h3, h4⟩ := h
    cases x with
    | inr j => cases h1
    | inl v' =>
      cases h1
      refine T_i2l dL_turnsOf_7 ?_
      refine T_last 0 dL_turnsOf_8 (k_450 (CI_Sh h2)) rfl (by decide) ?_
      refine T_goto 15 dL_turnsOf_9 (by decide) ?_
      refine T_iconst (v := nI 0) dL_turnsOf_15 (by decide) ?_
      exact T_iret dL_turnsOf_16 rfl ⟨CI_450 h2, h3, rfl, up2_s⟩
abbrev hhL_lot : List (Nat × Nat × Nat × Nat) := [(0, 10, 13, 13)]
theorem hdL_lot_1 : HDL mL_lot hhL_lot 5 xIAE 1 := ⟨[], ⟨0, 10, 13, 13⟩, [], _, rfl, (fun z hz => absurd hz List.not_mem_nil), by decide +kernel, by decide, clkL_13, by decide +kernel, rfl, Or.inr ⟨4, by decide, dL_lot_13, dL_lot_15, dL_lot_16⟩⟩
set_option maxRecDepth 100000 in
theorem w_lot (Γ : pTG) (g : pGG) (mi : pMI) (ml : pML) (hSh : Sh g) (A' : AS) (x : OUT) (hj : ∀ j, x = .inr j → j < 3 ∧ ¬ cd1 j = 0) (p0 : Int32) (p1 : Int32) (hC : CT Γ 60 20 5000 mX11_lot [.ref 0, .int p0, .int p1] g mi ml (CQ A' x mi ml)) : CTH Γ 61 20 5000 mL_lot hhL_lot [.ref 0, .int p0, .int p1, .ref 450] g mi ml (WQ A' x cd1 mi) := by
  refine CTH_of (by decide +kernel) (Nat.le_of_ble_eq_true rfl) ?_
  refine T_aload_n dL_lot_0 rfl ?_
  refine T_iconst (v := nI 0) dL_lot_1 (by decide) ?_
  refine T_aload_n dL_lot_2 rfl ?_
  refine T_iload_n dL_lot_3 rfl ?_
  refine T_iload_n dL_lot_4 rfl ?_
  refine T_callV (As := [.int p0, .int p1]) (z := 0) dL_lot_5 mkL_94 (k_0 hSh) hC rfl rfl (by decide) (by decide) (by decide) (Nat.le_of_ble_eq_true rfl) (fun E g' mi' ml' h => ?_) (fun v g' mi' ml' h => ?_)
  · obtain ⟨h1, h2, h3, h4⟩ := h
    cases x with
    | inl v => cases h1
    | inr j =>
      have hjj := hj j rfl
      cases h1
      match j, hjj with
      | 0, hjj => exact absurd hjj.2 (by decide)
      | 1, _ => exact ⟨1, hdL_lot_1, h2, h3, rfl⟩
      | 2, hjj => exact absurd hjj.2 (by decide)
      | j + 3, hjj => exact absurd hjj.1 (by omega)
  · obtain ⟨h1, h2, h3, h4⟩ := h
    cases x with
    | inr j => cases h1
    | inl v' =>
      cases h1
      refine T_i2l dL_lot_8 ?_
      refine T_last 0 dL_lot_9 (k_450 (CI_Sh h2)) rfl (by decide) ?_
      refine T_goto 17 dL_lot_10 (by decide) ?_
      refine T_iconst (v := nI 0) dL_lot_17 (by decide) ?_
      exact T_iret dL_lot_18 rfl ⟨CI_450 h2, h3, rfl, up2_s⟩
abbrev hhL_lucky : List (Nat × Nat × Nat × Nat) := [(0, 12, 15, 19), (0, 12, 19, 13)]
theorem hdL_lucky_0 : HDL mL_lucky hhL_lucky 7 xNSE 1 := ⟨[], ⟨0, 12, 15, 19⟩, [⟨0, 12, 19, 13⟩], _, rfl, (fun z hz => absurd hz List.not_mem_nil), by decide +kernel, by decide, clkL_19, by decide +kernel, rfl, Or.inr ⟨5, by decide, dL_lucky_15, dL_lucky_17, dL_lucky_18⟩⟩
theorem hdL_lucky_1 : HDL mL_lucky hhL_lucky 7 xIAE 2 := ⟨[⟨0, 12, 15, 19⟩], ⟨0, 12, 19, 13⟩, [], _, rfl, (fun z hz => by rw [List.mem_singleton] at hz; subst hz; exact ⟨by decide, _, clkL_19, by decide +kernel⟩), by decide +kernel, by decide, clkL_13, by decide +kernel, rfl, Or.inr ⟨5, by decide, dL_lucky_19, dL_lucky_21, dL_lucky_22⟩⟩
set_option maxRecDepth 100000 in
theorem w_lucky (Γ : pTG) (g : pGG) (mi : pMI) (ml : pML) (hSh : Sh g) (A' : AS) (x : OUT) (hj : ∀ j, x = .inr j → j < 3 ∧ ¬ cd2 j = 0) (p0 : Int32) (p1 : Int32) (p2 : Int32) (hC : CT Γ 60 20 5000 mX11_lucky [.ref 0, .int p0, .int p1, .int p2] g mi ml (CQ A' x mi ml)) : CTH Γ 61 20 5000 mL_lucky hhL_lucky [.ref 0, .int p0, .int p1, .int p2, .ref 450] g mi ml (WQ A' x cd2 mi) := by
  refine CTH_of (by decide +kernel) (Nat.le_of_ble_eq_true rfl) ?_
  refine T_aload dL_lucky_0 rfl ?_
  refine T_iconst (v := nI 0) dL_lucky_2 (by decide) ?_
  refine T_aload_n dL_lucky_3 rfl ?_
  refine T_iload_n dL_lucky_4 rfl ?_
  refine T_iload_n dL_lucky_5 rfl ?_
  refine T_iload_n dL_lucky_6 rfl ?_
  refine T_callV (As := [.int p0, .int p1, .int p2]) (z := 0) dL_lucky_7 mkL_97 (k_0 hSh) hC rfl rfl (by decide) (by decide) (by decide) (Nat.le_of_ble_eq_true rfl) (fun E g' mi' ml' h => ?_) (fun v g' mi' ml' h => ?_)
  · obtain ⟨h1, h2, h3, h4⟩ := h
    cases x with
    | inl v => cases h1
    | inr j =>
      have hjj := hj j rfl
      cases h1
      match j, hjj with
      | 0, _ => exact ⟨1, hdL_lucky_0, h2, h3, rfl⟩
      | 1, _ => exact ⟨2, hdL_lucky_1, h2, h3, rfl⟩
      | 2, hjj => exact absurd hjj.2 (by decide)
      | j + 3, hjj => exact absurd hjj.1 (by omega)
  · obtain ⟨h1, h2, h3, h4⟩ := h
    cases x with
    | inr j => cases h1
    | inl v' =>
      cases h1
      refine T_i2l dL_lucky_10 ?_
      refine T_last 0 dL_lucky_11 (k_450 (CI_Sh h2)) rfl (by decide) ?_
      refine T_goto 23 dL_lucky_12 (by decide) ?_
      refine T_iconst (v := nI 0) dL_lucky_23 (by decide) ?_
      exact T_iret dL_lucky_24 rfl ⟨CI_450 h2, h3, rfl, up2_s⟩
abbrev hhL_summer : List (Nat × Nat × Nat × Nat) := [(0, 12, 15, 13)]
theorem hdL_summer_1 : HDL mL_summer hhL_summer 7 xIAE 1 := ⟨[], ⟨0, 12, 15, 13⟩, [], _, rfl, (fun z hz => absurd hz List.not_mem_nil), by decide +kernel, by decide, clkL_13, by decide +kernel, rfl, Or.inr ⟨5, by decide, dL_summer_15, dL_summer_17, dL_summer_18⟩⟩
set_option maxRecDepth 100000 in
theorem w_summer (Γ : pTG) (g : pGG) (mi : pMI) (ml : pML) (hSh : Sh g) (A' : AS) (x : OUT) (hj : ∀ j, x = .inr j → j < 3 ∧ ¬ cd1 j = 0) (p0 : Int32) (p1 : Int32) (p2 : Int32) (hC : CT Γ 60 20 5000 mX11_summer [.ref 0, .int p0, .int p1, .int p2] g mi ml (CQ A' x mi ml)) : CTH Γ 61 20 5000 mL_summer hhL_summer [.ref 0, .int p0, .int p1, .int p2, .ref 450] g mi ml (WQ A' x cd1 mi) := by
  refine CTH_of (by decide +kernel) (Nat.le_of_ble_eq_true rfl) ?_
  refine T_aload dL_summer_0 rfl ?_
  refine T_iconst (v := nI 0) dL_summer_2 (by decide) ?_
  refine T_aload_n dL_summer_3 rfl ?_
  refine T_iload_n dL_summer_4 rfl ?_
  refine T_iload_n dL_summer_5 rfl ?_
  refine T_iload_n dL_summer_6 rfl ?_
  refine T_callV (As := [.int p0, .int p1, .int p2]) (z := 0) dL_summer_7 mkL_100 (k_0 hSh) hC rfl rfl (by decide) (by decide) (by decide) (Nat.le_of_ble_eq_true rfl) (fun E g' mi' ml' h => ?_) (fun v g' mi' ml' h => ?_)
  · obtain ⟨h1, h2, h3, h4⟩ := h
    cases x with
    | inl v => cases h1
    | inr j =>
      have hjj := hj j rfl
      cases h1
      match j, hjj with
      | 0, hjj => exact absurd hjj.2 (by decide)
      | 1, _ => exact ⟨1, hdL_summer_1, h2, h3, rfl⟩
      | 2, hjj => exact absurd hjj.2 (by decide)
      | j + 3, hjj => exact absurd hjj.1 (by omega)
  · obtain ⟨h1, h2, h3, h4⟩ := h
    cases x with
    | inr j => cases h1
    | inl v' =>
      cases h1
      refine T_i2l dL_summer_10 ?_
      refine T_last 0 dL_summer_11 (k_450 (CI_Sh h2)) rfl (by decide) ?_
      refine T_goto 19 dL_summer_12 (by decide) ?_
      refine T_iconst (v := nI 0) dL_summer_19 (by decide) ?_
      exact T_iret dL_summer_20 rfl ⟨CI_450 h2, h3, rfl, up2_s⟩
abbrev hhL_fits : List (Nat × Nat × Nat × Nat) := [(0, 9, 12, 19)]
theorem hdL_fits_0 : HDL mL_fits hhL_fits 4 xNSE 1 := ⟨[], ⟨0, 9, 12, 19⟩, [], _, rfl, (fun z hz => absurd hz List.not_mem_nil), by decide +kernel, by decide, clkL_19, by decide +kernel, rfl, Or.inl ⟨3, by decide, dL_fits_12, dL_fits_13, dL_fits_14⟩⟩
set_option maxRecDepth 100000 in
theorem w_fits (Γ : pTG) (g : pGG) (mi : pMI) (ml : pML) (hSh : Sh g) (A' : AS) (x : OUT) (hj : ∀ j, x = .inr j → j < 3 ∧ ¬ cd0 j = 0) (p0 : Int32) (hC : CT Γ 60 20 5000 mX11_fits [.ref 0, .int p0] g mi ml (CQ A' x mi ml)) : CTH Γ 61 20 5000 mL_fits hhL_fits [.ref 0, .int p0, .ref 450] g mi ml (WQ A' x cd0 mi) := by
  refine CTH_of (by decide +kernel) (Nat.le_of_ble_eq_true rfl) ?_
  refine T_aload_n dL_fits_0 rfl ?_
  refine T_iconst (v := nI 0) dL_fits_1 (by decide) ?_
  refine T_aload_n dL_fits_2 rfl ?_
  refine T_iload_n dL_fits_3 rfl ?_
  refine T_callV (As := [.int p0]) (z := 0) dL_fits_4 mkL_103 (k_0 hSh) hC rfl rfl (by decide) (by decide) (by decide) (Nat.le_of_ble_eq_true rfl) (fun E g' mi' ml' h => ?_) (fun v g' mi' ml' h => ?_)
  · obtain ⟨h1, h2, h3, h4⟩ := h
    cases x with
    | inl v => cases h1
    | inr j =>
      have hjj := hj j rfl
      cases h1
      match j, hjj with
      | 0, _ => exact ⟨1, hdL_fits_0, h2, h3, rfl⟩
      | 1, hjj => exact absurd hjj.2 (by decide)
      | 2, hjj => exact absurd hjj.2 (by decide)
      | j + 3, hjj => exact absurd hjj.1 (by omega)
  · obtain ⟨h1, h2, h3, h4⟩ := h
    cases x with
    | inr j => cases h1
    | inl v' =>
      cases h1
      refine T_i2l dL_fits_7 ?_
      refine T_last 0 dL_fits_8 (k_450 (CI_Sh h2)) rfl (by decide) ?_
      refine T_goto 15 dL_fits_9 (by decide) ?_
      refine T_iconst (v := nI 0) dL_fits_15 (by decide) ?_
      exact T_iret dL_fits_16 rfl ⟨CI_450 h2, h3, rfl, up2_s⟩
abbrev hhL_early : List (Nat × Nat × Nat × Nat) := [(0, 9, 12, 13)]
theorem hdL_early_1 : HDL mL_early hhL_early 4 xIAE 1 := ⟨[], ⟨0, 9, 12, 13⟩, [], _, rfl, (fun z hz => absurd hz List.not_mem_nil), by decide +kernel, by decide, clkL_13, by decide +kernel, rfl, Or.inl ⟨3, by decide, dL_early_12, dL_early_13, dL_early_14⟩⟩
set_option maxRecDepth 100000 in
theorem w_early (Γ : pTG) (g : pGG) (mi : pMI) (ml : pML) (hSh : Sh g) (A' : AS) (x : OUT) (hj : ∀ j, x = .inr j → j < 3 ∧ ¬ cd1 j = 0) (p0 : Int32) (hC : CT Γ 60 20 5000 mX11_early [.ref 0, .int p0] g mi ml (CQ A' x mi ml)) : CTH Γ 61 20 5000 mL_early hhL_early [.ref 0, .int p0, .ref 450] g mi ml (WQ A' x cd1 mi) := by
  refine CTH_of (by decide +kernel) (Nat.le_of_ble_eq_true rfl) ?_
  refine T_aload_n dL_early_0 rfl ?_
  refine T_iconst (v := nI 0) dL_early_1 (by decide) ?_
  refine T_aload_n dL_early_2 rfl ?_
  refine T_iload_n dL_early_3 rfl ?_
  refine T_callV (As := [.int p0]) (z := 0) dL_early_4 mkL_106 (k_0 hSh) hC rfl rfl (by decide) (by decide) (by decide) (Nat.le_of_ble_eq_true rfl) (fun E g' mi' ml' h => ?_) (fun v g' mi' ml' h => ?_)
  · obtain ⟨h1, h2, h3, h4⟩ := h
    cases x with
    | inl v => cases h1
    | inr j =>
      have hjj := hj j rfl
      cases h1
      match j, hjj with
      | 0, hjj => exact absurd hjj.2 (by decide)
      | 1, _ => exact ⟨1, hdL_early_1, h2, h3, rfl⟩
      | 2, hjj => exact absurd hjj.2 (by decide)
      | j + 3, hjj => exact absurd hjj.1 (by omega)
  · obtain ⟨h1, h2, h3, h4⟩ := h
    cases x with
    | inr j => cases h1
    | inl v' =>
      cases h1
      refine T_i2l dL_early_7 ?_
      refine T_last 0 dL_early_8 (k_450 (CI_Sh h2)) rfl (by decide) ?_
      refine T_goto 15 dL_early_9 (by decide) ?_
      refine T_iconst (v := nI 0) dL_early_15 (by decide) ?_
      exact T_iret dL_early_16 rfl ⟨CI_450 h2, h3, rfl, up2_s⟩
abbrev hhL_hotel : List (Nat × Nat × Nat × Nat) := [(0, 10, 13, 13)]
theorem hdL_hotel_1 : HDL mL_hotel hhL_hotel 5 xIAE 1 := ⟨[], ⟨0, 10, 13, 13⟩, [], _, rfl, (fun z hz => absurd hz List.not_mem_nil), by decide +kernel, by decide, clkL_13, by decide +kernel, rfl, Or.inr ⟨4, by decide, dL_hotel_13, dL_hotel_15, dL_hotel_16⟩⟩
set_option maxRecDepth 100000 in
theorem w_hotel (Γ : pTG) (g : pGG) (mi : pMI) (ml : pML) (hSh : Sh g) (A' : AS) (x : OUT) (hj : ∀ j, x = .inr j → j < 3 ∧ ¬ cd1 j = 0) (p0 : Int32) (p1 : Int32) (hC : CT Γ 60 20 5000 mX11_hotel [.ref 0, .int p0, .int p1] g mi ml (CQ A' x mi ml)) : CTH Γ 61 20 5000 mL_hotel hhL_hotel [.ref 0, .int p0, .int p1, .ref 450] g mi ml (WQ A' x cd1 mi) := by
  refine CTH_of (by decide +kernel) (Nat.le_of_ble_eq_true rfl) ?_
  refine T_aload_n dL_hotel_0 rfl ?_
  refine T_iconst (v := nI 0) dL_hotel_1 (by decide) ?_
  refine T_aload_n dL_hotel_2 rfl ?_
  refine T_iload_n dL_hotel_3 rfl ?_
  refine T_iload_n dL_hotel_4 rfl ?_
  refine T_callV (As := [.int p0, .int p1]) (z := 0) dL_hotel_5 mkL_109 (k_0 hSh) hC rfl rfl (by decide) (by decide) (by decide) (Nat.le_of_ble_eq_true rfl) (fun E g' mi' ml' h => ?_) (fun v g' mi' ml' h => ?_)
  · obtain ⟨h1, h2, h3, h4⟩ := h
    cases x with
    | inl v => cases h1
    | inr j =>
      have hjj := hj j rfl
      cases h1
      match j, hjj with
      | 0, hjj => exact absurd hjj.2 (by decide)
      | 1, _ => exact ⟨1, hdL_hotel_1, h2, h3, rfl⟩
      | 2, hjj => exact absurd hjj.2 (by decide)
      | j + 3, hjj => exact absurd hjj.1 (by omega)
  · obtain ⟨h1, h2, h3, h4⟩ := h
    cases x with
    | inr j => cases h1
    | inl v' =>
      cases h1
      refine T_i2l dL_hotel_8 ?_
      refine T_last 0 dL_hotel_9 (k_450 (CI_Sh h2)) rfl (by decide) ?_
      refine T_goto 17 dL_hotel_10 (by decide) ?_
      refine T_iconst (v := nI 0) dL_hotel_17 (by decide) ?_
      exact T_iret dL_hotel_18 rfl ⟨CI_450 h2, h3, rfl, up2_s⟩
abbrev hhL_hire : List (Nat × Nat × Nat × Nat) := [(0, 9, 12, 13)]
theorem hdL_hire_1 : HDL mL_hire hhL_hire 4 xIAE 1 := ⟨[], ⟨0, 9, 12, 13⟩, [], _, rfl, (fun z hz => absurd hz List.not_mem_nil), by decide +kernel, by decide, clkL_13, by decide +kernel, rfl, Or.inl ⟨3, by decide, dL_hire_12, dL_hire_13, dL_hire_14⟩⟩
set_option maxRecDepth 100000 in
theorem w_hire (Γ : pTG) (g : pGG) (mi : pMI) (ml : pML) (hSh : Sh g) (A' : AS) (x : OUT) (hj : ∀ j, x = .inr j → j < 3 ∧ ¬ cd1 j = 0) (p0 : Int32) (hC : CT Γ 60 20 5000 mX11_hire [.ref 0, .int p0] g mi ml (CQ A' x mi ml)) : CTH Γ 61 20 5000 mL_hire hhL_hire [.ref 0, .int p0, .ref 450] g mi ml (WQ A' x cd1 mi) := by
  refine CTH_of (by decide +kernel) (Nat.le_of_ble_eq_true rfl) ?_
  refine T_aload_n dL_hire_0 rfl ?_
  refine T_iconst (v := nI 0) dL_hire_1 (by decide) ?_
  refine T_aload_n dL_hire_2 rfl ?_
  refine T_iload_n dL_hire_3 rfl ?_
  refine T_callV (As := [.int p0]) (z := 0) dL_hire_4 mkL_112 (k_0 hSh) hC rfl rfl (by decide) (by decide) (by decide) (Nat.le_of_ble_eq_true rfl) (fun E g' mi' ml' h => ?_) (fun v g' mi' ml' h => ?_)
  · obtain ⟨h1, h2, h3, h4⟩ := h
    cases x with
    | inl v => cases h1
    | inr j =>
      have hjj := hj j rfl
      cases h1
      match j, hjj with
      | 0, hjj => exact absurd hjj.2 (by decide)
      | 1, _ => exact ⟨1, hdL_hire_1, h2, h3, rfl⟩
      | 2, hjj => exact absurd hjj.2 (by decide)
      | j + 3, hjj => exact absurd hjj.1 (by omega)
  · obtain ⟨h1, h2, h3, h4⟩ := h
    cases x with
    | inr j => cases h1
    | inl v' =>
      cases h1
      refine T_i2l dL_hire_7 ?_
      refine T_last 0 dL_hire_8 (k_450 (CI_Sh h2)) rfl (by decide) ?_
      refine T_goto 15 dL_hire_9 (by decide) ?_
      refine T_iconst (v := nI 0) dL_hire_15 (by decide) ?_
      exact T_iret dL_hire_16 rfl ⟨CI_450 h2, h3, rfl, up2_s⟩
abbrev hhL_wakes : List (Nat × Nat × Nat × Nat) := [(0, 10, 13, 19), (0, 10, 17, 13)]
theorem hdL_wakes_0 : HDL mL_wakes hhL_wakes 5 xNSE 1 := ⟨[], ⟨0, 10, 13, 19⟩, [⟨0, 10, 17, 13⟩], _, rfl, (fun z hz => absurd hz List.not_mem_nil), by decide +kernel, by decide, clkL_19, by decide +kernel, rfl, Or.inr ⟨4, by decide, dL_wakes_13, dL_wakes_15, dL_wakes_16⟩⟩
theorem hdL_wakes_1 : HDL mL_wakes hhL_wakes 5 xIAE 2 := ⟨[⟨0, 10, 13, 19⟩], ⟨0, 10, 17, 13⟩, [], _, rfl, (fun z hz => by rw [List.mem_singleton] at hz; subst hz; exact ⟨by decide, _, clkL_19, by decide +kernel⟩), by decide +kernel, by decide, clkL_13, by decide +kernel, rfl, Or.inr ⟨4, by decide, dL_wakes_17, dL_wakes_19, dL_wakes_20⟩⟩
set_option maxRecDepth 100000 in
theorem w_wakes (Γ : pTG) (g : pGG) (mi : pMI) (ml : pML) (hSh : Sh g) (A' : AS) (x : OUT) (hj : ∀ j, x = .inr j → j < 3 ∧ ¬ cd2 j = 0) (p0 : Int32) (p1 : Int32) (hC : CT Γ 60 20 5000 mX11_wakes [.ref 0, .int p0, .int p1] g mi ml (CQ A' x mi ml)) : CTH Γ 61 20 5000 mL_wakes hhL_wakes [.ref 0, .int p0, .int p1, .ref 450] g mi ml (WQ A' x cd2 mi) := by
  refine CTH_of (by decide +kernel) (Nat.le_of_ble_eq_true rfl) ?_
  refine T_aload_n dL_wakes_0 rfl ?_
  refine T_iconst (v := nI 0) dL_wakes_1 (by decide) ?_
  refine T_aload_n dL_wakes_2 rfl ?_
  refine T_iload_n dL_wakes_3 rfl ?_
  refine T_iload_n dL_wakes_4 rfl ?_
  refine T_callV (As := [.int p0, .int p1]) (z := 0) dL_wakes_5 mkL_115 (k_0 hSh) hC rfl rfl (by decide) (by decide) (by decide) (Nat.le_of_ble_eq_true rfl) (fun E g' mi' ml' h => ?_) (fun v g' mi' ml' h => ?_)
  · obtain ⟨h1, h2, h3, h4⟩ := h
    cases x with
    | inl v => cases h1
    | inr j =>
      have hjj := hj j rfl
      cases h1
      match j, hjj with
      | 0, _ => exact ⟨1, hdL_wakes_0, h2, h3, rfl⟩
      | 1, _ => exact ⟨2, hdL_wakes_1, h2, h3, rfl⟩
      | 2, hjj => exact absurd hjj.2 (by decide)
      | j + 3, hjj => exact absurd hjj.1 (by omega)
  · obtain ⟨h1, h2, h3, h4⟩ := h
    cases x with
    | inr j => cases h1
    | inl v' =>
      cases h1
      refine T_i2l dL_wakes_8 ?_
      refine T_last 0 dL_wakes_9 (k_450 (CI_Sh h2)) rfl (by decide) ?_
      refine T_goto 21 dL_wakes_10 (by decide) ?_
      refine T_iconst (v := nI 0) dL_wakes_21 (by decide) ?_
      exact T_iret dL_wakes_22 rfl ⟨CI_450 h2, h3, rfl, up2_s⟩

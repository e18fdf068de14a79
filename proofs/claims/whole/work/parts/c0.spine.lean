/-! ===== the start: what the Statement gives is a Γ with its extS; the claim out of the law's walk in the pure layer ===== -/
theorem ex_ref {args : Array Value} {s : State} {t : Term} {C : String} (h : (Cond.exactly t C).before args s = true) : ∃ a : Nat, t.eval args s none [] s = some (.ref a) := by
  unfold Cond.before Cond.holds at h
  simp only [Cond.value] at h
  cases ht : t.eval args s none [] s with
  | none => rw [ht] at h; simp at h
  | some v =>
    rw [ht] at h
    cases v <;> first | exact ⟨_, rfl⟩ | (cases hf : s.vm.findClass C <;> rw [hf] at h <;> simp at h)
theorem inC {c : Nat} (h : c < 13) : ∀ w ∈ u_ws (RC c) (TC c) (nfC c), w ∈ lw_tbl := fun w hw => (List.mem_filter.mp ((clsA h).2.1 w hw)).1
theorem insC : ∀ c, c < 13 → Cond.instantiable (RC c) (nfC c) ∈ lw_tbl := by decide +kernel
theorem vwCl_lt {c : Nat} {q : vw_C} (h : vwCl[c]? = some q) : c < 13 := (List.getElem?_eq_some_iff.mp h).1
theorem K_start {s : State} {args : Array Value} (hts : ∀ w ∈ lw_tbl, w.before args s = true) : ∃ (D : va_G) (dA : Nat → ClassId), va_K D vwCl (tysO dA) s := by
  have h1 : ∀ c, ∃ p : ClassId × (Nat → Nat), c < 13 → u_Kn s (RC c) (TC c) (nfC c) p.1 p.2 := by
    intro c
    by_cases hc : c < 13
    · obtain ⟨cC, iS, h⟩ := u_known hts (inC hc) (hts _ (insC c hc))
      exact ⟨(cC, iS), fun _ => h⟩
    · exact ⟨(0, fun _ => 0), fun h => absurd h hc⟩
  obtain ⟨F, hF⟩ := Classical.axiomOfChoice h1
  have arr : ∀ ty : FieldType, Cond.arrayClass ty ∈ lw_tbl → ∃ cA : ClassId, ArrOfT s cA ty ∧ s.vm.findClass ("[" ++ ty.toString) = some cA := by
    intro ty hm
    obtain ⟨c, k, comp, a1, a2, a3⟩ := Cond.arrayClass_spec (hts _ hm)
    exact ⟨c, fun n z => ⟨fun k h => (by cases h), k, a2, comp, a3⟩, a1⟩
  obtain ⟨cI, i1, i2⟩ := arr .int (by decide +kernel)
  obtain ⟨cL, l1, l2⟩ := arr .long (by decide +kernel)
  obtain ⟨cZ, z1, z2⟩ := arr .boolean (by decide +kernel)
  obtain ⟨cp, cM, kM, m0, m1, m2, m3⟩ := Cond.arrayOver_specA (hts (Cond.arrayOver (.array .int)) (by decide +kernel))
  obtain ⟨cq, cQ, kQ, q0, q1, q2, q3, q4⟩ := Cond.arrayOver_spec (hts (Cond.arrayOver (.object "PoolTowels$Image")) (by decide +kernel))
  refine ⟨(fun c => (F c).1, fun c => (F c).2), fun k => match k with | 0 => cI | 1 => cL | 2 => cZ | 3 => cM | _ => cQ, ?_, ?_⟩
  · intro c q hq
    have hc := vwCl_lt hq
    have := (clsA hc).1.symm.trans hq
    cases this
    exact hF c hc
  · intro k q hq
    match k, hq with
    | 0, hq => cases hq; exact ⟨i1, i2⟩
    | 1, hq => cases hq; exact ⟨l1, l2⟩
    | 2, hq => cases hq; exact ⟨z1, z2⟩
    | 3, hq => cases hq; exact ⟨fun n z => ⟨fun k h => (by cases h), kM, m1, cp, m2⟩, m3⟩
    | 4, hq => cases hq; exact ⟨fun n z => ⟨fun k h => (by cases h), kQ, q2, cq, q3⟩, kQ, cq, q2, q3, q0, q4⟩
    | k + 5, hq => simp [tysO] at hq
def strTm (i : Nat) : Term := match i with
  | 0 => .string "PoolTowels$Pool" 65
  | 1 => .string "PoolTowels$HabitReader" 70
  | 2 => .string "PoolTowels$HabitReader" 85
  | _ => .string "PoolTowels$HabitReader" 91
def narW : List Cond := flatC (Jvm.Cond.and given_1 narrow_1)
theorem nar_ex : ∀ i, i < 4 → Cond.exactly (strTm i) "java/lang/String" ∈ narW := by decide +kernel
theorem nar_co : ∀ i, i < 4 → Cond.eq (.field (strTm i) "java/lang/String" "coder" "B") (.int 0) ∈ narW := by decide +kernel
theorem nar_ar : ∀ i, i < 4 → Cond.arrayOf (.field (strTm i) "java/lang/String" "value" "[B") .byte ∈ narW := by decide +kernel
theorem nar_le : ∀ i, i < 4 → Cond.eq (.length (.field (strTm i) "java/lang/String" "value" "[B")) (.int (Int32.ofNat (strLen.getD i 0))) ∈ narW := by decide +kernel
theorem nar_el : ∀ i, i < 4 → ∀ j, j < strLen.getD i 0 → Cond.eq (.elem (.field (strTm i) "java/lang/String" "value" "[B") (.int (Int32.ofNat j))) (.int ((strByt.getD i []).getD j 0)) ∈ narW := by decide +kernel
theorem nar_ne : ∀ i, i < 4 → ∀ j, j < 4 → i ≠ j → Cond.not (Cond.eq (strTm i) (strTm j)) ∈ narW ∨ Cond.not (Cond.eq (strTm j) (strTm i)) ∈ narW := by decide +kernel
theorem strT4 : ∀ j, j < 4 → ∀ q, strTab[j]? = some q → strTm j = Term.string q.1 q.2.1 := by
  intro j hj q hq
  match j, hj with
  | 0, _ => cases hq; rfl
  | 1, _ => cases hq; rfl
  | 2, _ => cases hq; rfl
  | 3, _ => cases hq; rfl
theorem strT_ref : ∀ q ∈ strTab, Cond.stringRef q.1 q.2.1 q.2.2 ∈ lw_tbl := by decide +kernel
theorem strT_ex : ∀ q ∈ strTab, Cond.exactly (.string q.1 q.2.1) "java/lang/String" ∈ narW := by decide +kernel
theorem cst_in : ∀ q ∈ cstW, Cond.castable q.1 q.2 ∈ lw_tbl := by decide +kernel
theorem nst_in : ∀ q ∈ nstW, Cond.methodLinkNest q.1 q.2.1 q.2.2.1 q.2.2.2 ∈ lw_tbl := by decide +kernel
theorem dcl_in : ∀ q ∈ dclW, Cond.declares q ∈ lw_tbl := by decide +kernel
theorem nc_in : ∀ q ∈ ncW, Cond.not (.castable q.1 q.2) ∈ narW := by decide +kernel
theorem ext_start {l : Launch} (hflags : l.flags = flags0) {s : State} {b L : Nat} {xs : Nat → Int32} (hts : ∀ w ∈ lw_tbl, w.before #[Value.ref b] s = true) (hX : va_X b L xs s s.heap) (hbl : b < s.heap.size) (hgv : (Jvm.Cond.and given_1 narrow_1).before #[Value.ref b] s = true) :
    ∃ Γ : pTG, Γ.1 = l ∧ Γ.2.2.2.1 = s.heap.size ∧ Γ.2.2.2.2.1 = (L, xs) ∧ Γ.2.2.2.2.2.1 0 = b ∧ extS Γ s := by
  have hs : ∀ w ∈ narW, w.before #[Value.ref b] s = true := flat_of_before _ hgv
  obtain ⟨D, dA, hK⟩ := K_start hts
  obtain ⟨A, hAe⟩ : ∃ A : Nat → Prop, A = fun q => s.heap.size ≤ q := ⟨_, rfl⟩
  have hA : ∀ a : Nat, a < s.heap.size → ¬ A a := fun a h q => by rw [hAe] at q; exact absurd q (Nat.not_le.mpr h)
  obtain ⟨adK, adV, hvS, hev⟩ := vk_Sof (N := 4) (tm := strTm) (len := strLen) (byt := strByt) (A := A) (by decide) (fun i hi => hs _ (nar_ex i hi)) (fun i hi => hs _ (nar_co i hi)) (fun i hi => hs _ (nar_ar i hi)) (fun i hi => hs _ (nar_le i hi)) (fun i hi j hj => hs _ (nar_el i hi j hj)) (fun i j hi hj hne => (nar_ne i hi j hj hne).elim (fun q => Or.inl (hs _ q)) (fun q => Or.inr (hs _ q))) hA
  have hU := vx_Zqof (A := A) (hts (.laysStatic Bundle.tN "UNASSIGNED_STACK" Bundle.steD) (by decide +kernel)) (hts (.initialized Bundle.tN) (by decide +kernel)) (hs (.isRef (.static Bundle.tN "UNASSIGNED_STACK" Bundle.steD)) (by decide +kernel)) hA
  have hN := vx_Zqof (A := A) (hts (.laysStatic Bundle.tN "SUPPRESSED_SENTINEL" Bundle.listD) (by decide +kernel)) (hts (.initialized Bundle.tN) (by decide +kernel)) (hs (.isRef (.static Bundle.tN "SUPPRESSED_SENTINEL" Bundle.listD)) (by decide +kernel)) hA
  have hF := va_Zqof (A := A) (hts (.laysStatic "jdk/internal/util/Preconditions" "SIOOBE_FORMATTER" "Ljava/util/function/BiFunction;") (by decide +kernel)) (hts (.initialized "jdk/internal/util/Preconditions") (by decide +kernel)) (hs (.isRef (.static "jdk/internal/util/Preconditions" "SIOOBE_FORMATTER" "Ljava/util/function/BiFunction;")) (by decide +kernel)) hA
  have hC : va_Z "java/lang/String" "COMPACT_STRINGS" "Z" (.int 1) A s s.heap := by
    refine va_Zof (hts (.laysStatic "java/lang/String" "COMPACT_STRINGS" "Z") (by decide +kernel)) (hts (.initialized "java/lang/String") (by decide +kernel)) ?_ hA
    obtain ⟨w, h1, h2⟩ := Cond.eq_one (show (Cond.eq (.static "java/lang/String" "COMPACT_STRINGS" "Z") (.int 1)).holds #[Value.ref b] s none s [] = true from hs _ (by decide +kernel))
    have h2 : some (Value.int 1) = some w := h2
    cases h2
    exact h1
  have hex : ∀ j : Nat, ∃ a : Nat, ∀ q : String × Nat × String, strTab[j]? = some q → (Term.string q.1 q.2.1).eval #[Value.ref b] s none [] s = some (.ref a) := by
    intro j
    cases hq : strTab[j]? with
    | none => exact ⟨0, fun q h => by cases h⟩
    | some q =>
      obtain ⟨a, ha⟩ := ex_ref (hs _ (strT_ex q (List.mem_of_getElem? hq)))
      exact ⟨a, fun q' h => by cases h; exact ha⟩
  obtain ⟨eA, heA⟩ := Classical.axiomOfChoice hex
  obtain ⟨fm, hfm⟩ : ∃ t : Nat, va_Z "jdk/internal/util/Preconditions" "SIOOBE_FORMATTER" "Ljava/util/function/BiFunction;" .null A s s.heap ∨ va_Z "jdk/internal/util/Preconditions" "SIOOBE_FORMATTER" "Ljava/util/function/BiFunction;" (.ref t) A s s.heap := by
    rcases hF with q | ⟨t, q⟩
    · exact ⟨0, Or.inl q⟩
    · exact ⟨t, Or.inr q⟩
  subst hAe
  have hK4 : ∀ j, j < 4 → eA j = adK j := by
    intro j hj
    have hlt : j < strTab.length := by show j < 8; omega
    have h1 := heA j _ (List.getElem?_eq_getElem hlt)
    have h2 := hev j hj
    rw [strT4 j hj _ (List.getElem?_eq_getElem hlt)] at h2
    rw [h1] at h2
    exact Value.ref.inj (Option.some.inj h2)
  refine ⟨(l, D, dA, s.heap.size, (L, xs), (fun j => if j = 0 then b else if j = 11 then fm else if 101 ≤ j then adV (j - 101) else eA (j - 1)), fun _ => 0), rfl, rfl, rfl, rfl, ?_⟩
  refine ⟨⟨va_AO.of (hts (Cond.arrayOver (.object "PoolTowels$Image")) (by decide +kernel)), hts (Cond.arrayOver (.array .int)) (by decide +kernel), fun q hq => va_Nw.of rfl (hts _ (dcl_in q hq)), fun q hq => va_Nw.of rfl (hts _ (cst_in q hq)), fun q hq => va_Nw.of rfl (hts _ (nst_in q hq)), fun q hq => va_Nc.of (hs _ (nc_in q hq))⟩, hK, hX, hbl, Nat.le_refl _, hU, hN, ⟨?_, hC, hfm⟩, ?_, ?_⟩
  · refine ⟨fun i hi => ?_, fun i j hi hj hij => ?_⟩
    · have e1 : (if 1 + i = 0 then b else if 1 + i = 11 then fm else if 101 ≤ 1 + i then adV (1 + i - 101) else eA (1 + i - 1)) = adK i := by
        rw [if_neg (by omega), if_neg (by omega), if_neg (by omega), show 1 + i - 1 = i by omega, hK4 i hi]
      have e2 : (if 101 + i = 0 then b else if 101 + i = 11 then fm else if 101 ≤ 101 + i then adV (101 + i - 101) else eA (101 + i - 1)) = adV i := by
        rw [if_neg (by omega), if_neg (by omega), if_pos (by omega), show 101 + i - 101 = i by omega]
      have := hvS.1 i hi
      show va_O _ (if 1 + i = 0 then b else if 1 + i = 11 then fm else if 101 ≤ 1 + i then adV (1 + i - 101) else eA (1 + i - 1)) _ _ _ ∧ va_OF _ _ _ _ (if 1 + i = 0 then b else if 1 + i = 11 then fm else if 101 ≤ 1 + i then adV (1 + i - 101) else eA (1 + i - 1)) _ _ _ ∧ va_OF _ _ _ (.ref (if 101 + i = 0 then b else if 101 + i = 11 then fm else if 101 ≤ 101 + i then adV (101 + i - 101) else eA (101 + i - 1))) (if 1 + i = 0 then b else if 1 + i = 11 then fm else if 101 ≤ 1 + i then adV (1 + i - 101) else eA (1 + i - 1)) _ _ _ ∧ va_T _ (if 101 + i = 0 then b else if 101 + i = 11 then fm else if 101 ≤ 101 + i then adV (101 + i - 101) else eA (101 + i - 1)) _ _ _ _ _
      rw [e1, e2]
      exact this
    · have hij : (if 1 + i = 0 then b else if 1 + i = 11 then fm else if 101 ≤ 1 + i then adV (1 + i - 101) else eA (1 + i - 1)) = (if 1 + j = 0 then b else if 1 + j = 11 then fm else if 101 ≤ 1 + j then adV (1 + j - 101) else eA (1 + j - 1)) := hij
      rw [if_neg (by omega), if_neg (by omega), if_neg (by omega), if_neg (by omega), if_neg (by omega), if_neg (by omega), show 1 + i - 1 = i by omega, show 1 + j - 1 = j by omega, hK4 i hi, hK4 j hj] at hij
      exact hvS.2 i j hi hj hij
  · intro j q hq
    have hj : j < 8 := (List.getElem?_eq_some_iff.mp hq).1
    show vk_R _ _ _ (if 1 + j = 0 then b else if 1 + j = 11 then fm else if 101 ≤ 1 + j then adV (1 + j - 101) else eA (1 + j - 1)) s
    rw [if_neg (by omega), if_neg (by omega), if_neg (by omega), show 1 + j - 1 = j by omega]
    exact vk_R.of (hts _ (strT_ref q (List.mem_of_getElem? hq))) (heA j q hq)
  · show (!l.flags.contains noTraceFlag) = false
    rw [hflags]
    decide +kernel

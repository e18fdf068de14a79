/-! ===== the pure layer: a world of numbered cells, ints by (cell, place), references apart ===== -/
abbrev pGG : Type := Nat × (Nat → Nat × Nat) × (Nat → Nat → Option Nat)
abbrev pMI : Type := Nat → Nat → Int32
abbrev pML : Type := Nat → Nat → Int64
abbrev pMD : Type := MethodName × ByteArray × Nat × Option FieldType
abbrev pTG : Type := Launch × va_G × (Nat → ClassId) × Nat × (Nat × (Nat → Int32)) × (Nat → Nat) × (Nat → Nat)
abbrev pQ : Type := Option Value ⊕ String → pGG → pMI → pML → Prop
def uxW : List Cond := lw_tbl.filter goodWord
theorem uxW_of {w : Cond} (h : w ∈ lw_tbl) (hg : goodWord w = true) : w ∈ uxW := List.mem_filter.mpr ⟨h, hg⟩
theorem uxW_good {w : Cond} (h : w ∈ uxW) : goodWord w = true := (List.mem_filter.mp h).2
def RC (c : Nat) : String := match c with
  | 0 => RX0 | 1 => RX1 | 2 => RX2 | 3 => RX3 | 4 => RX4 | 5 => RX5 | 6 => RX6 | 7 => RX7 | 8 => RX8 | 9 => RX9 | 10 => RX10 | 11 => RX11 | _ => RX12
def TC (c : Nat) : u_T := match c with
  | 0 => TX0 | 1 => TX1 | 2 => TX2 | 3 => TX3 | 4 => TX4 | 5 => TX5 | 6 => TX6 | 7 => TX7 | 8 => TX8 | 9 => TX9 | 10 => TX10 | 11 => TX11 | _ => TX12
def tyC (c : Nat) : Nat → FieldType := match c with
  | 0 => tyX0 | 1 => tyX1 | 2 => tyX2 | 3 => tyX3 | 4 => tyX4 | 5 => tyX5 | 6 => tyX6 | 7 => tyX7 | 8 => tyX8 | 9 => tyX9 | 10 => tyX10 | 11 => tyX11 | _ => tyX12
def nfC (c : Nat) : Nat := match c with
  | 0 => 3 | 1 => 4 | 2 => 15 | 3 => 10 | 4 => 6 | 5 => 4 | 6 => 6 | 7 => 7 | 8 => 11 | 9 => 8 | 10 => 5 | 11 => 20 | _ => 63
def clsOK (c : Nat) : Prop := vwCl[c]? = some (RC c, TC c, nfC c) ∧ (∀ w ∈ u_ws (RC c) (TC c) (nfC c), w ∈ uxW) ∧ (∀ k, k < nfC c → parseFieldDescriptor (TC c k).2.2.1 = some (tyC c k)) ∧ (∀ a, a < nfC c → ∀ b, b < nfC c → a ≠ b → (TC c a).2.1 ≠ (TC c b).2.1)
theorem clsOK_mk {c : Nat} (h1 : vwCl[c]? = some (RC c, TC c, nfC c)) (h2 : ∀ w ∈ u_ws (RC c) (TC c) (nfC c), w ∈ lw_tbl) (hg : ∀ w ∈ u_ws (RC c) (TC c) (nfC c), goodWord w = true) (h3 : ∀ k, k < nfC c → parseFieldDescriptor (TC c k).2.2.1 = some (tyC c k)) (h4 : ∀ a, a < nfC c → ∀ b, b < nfC c → a ≠ b → (TC c a).2.1 ≠ (TC c b).2.1) : clsOK c := ⟨h1, fun w hw => uxW_of (h2 w hw) (hg w hw), h3, h4⟩
theorem cls0 : clsOK 0 := clsOK_mk rfl inX0 (by decide +kernel) tyX0_ok nmX0
theorem cls1 : clsOK 1 := clsOK_mk rfl inX1 (by decide +kernel) tyX1_ok nmX1
theorem cls2 : clsOK 2 := clsOK_mk rfl inX2 (by decide +kernel) tyX2_ok nmX2
theorem cls3 : clsOK 3 := clsOK_mk rfl inX3 (by decide +kernel) tyX3_ok nmX3
theorem cls4 : clsOK 4 := clsOK_mk rfl inX4 (by decide +kernel) tyX4_ok nmX4
theorem cls5 : clsOK 5 := clsOK_mk rfl inX5 (by decide +kernel) tyX5_ok nmX5
theorem cls6 : clsOK 6 := clsOK_mk rfl inX6 (by decide +kernel) tyX6_ok nmX6
theorem cls7 : clsOK 7 := clsOK_mk rfl inX7 (by decide +kernel) tyX7_ok nmX7
theorem cls8 : clsOK 8 := clsOK_mk rfl inX8 (by decide +kernel) tyX8_ok nmX8
theorem cls9 : clsOK 9 := clsOK_mk rfl inX9 (by decide +kernel) tyX9_ok nmX9
theorem cls10 : clsOK 10 := clsOK_mk rfl inX10 (by decide +kernel) tyX10_ok nmX10
theorem cls11 : clsOK 11 := clsOK_mk rfl inX11 (by decide +kernel) tyX11_ok nmX11
theorem cls12 : clsOK 12 := clsOK_mk rfl inX12 (by decide +kernel) tyX12_ok nmX12
theorem clsA {c : Nat} (h : c < 13) : clsOK c := by
  match c, h with
  | 0, _ => exact cls0
  | 1, _ => exact cls1
  | 2, _ => exact cls2
  | 3, _ => exact cls3
  | 4, _ => exact cls4
  | 5, _ => exact cls5
  | 6, _ => exact cls6
  | 7, _ => exact cls7
  | 8, _ => exact cls8
  | 9, _ => exact cls9
  | 10, _ => exact cls10
  | 11, _ => exact cls11
  | 12, _ => exact cls12
def rfk (t : FieldType) : Bool := match t with
  | .object _ => true
  | .array _ => true
  | _ => false
def cv (ad : Nat → Nat) (v : Value) : Value := match v with
  | .ref i => .ref (ad i)
  | w => w
theorem cv_i (ad : Nat → Nat) (x : Int32) : cv ad (.int x) = .int x := rfl
theorem cv_l (ad : Nat → Nat) (x : Int64) : cv ad (.long x) = .long x := rfl
theorem cv_r (ad : Nat → Nat) (x : Nat) : cv ad (.ref x) = .ref (ad x) := rfl
theorem cv_n (ad : Nat → Nat) : cv ad .null = .null := rfl
theorem cv_rf (ad : Nat → Nat) (r : Option Nat) : cv ad (va_rf r) = va_rf (r.map ad) := by cases r <;> rfl
theorem cv_cat (ad : Nat → Nat) (v : Value) : (cv ad v).category = v.category := by cases v <;> rfl
def okv (g : pGG) (v : Value) : Prop := ∀ i : Nat, v = .ref i → i < g.1 ∨ 999 ≤ i
def okS (g : pGG) (S : List Value) : Prop := ∀ v ∈ S, okv g v
def okL (g : pGG) (L : List (Nat × Value)) : Prop := ∀ q ∈ L, okv g q.2
theorem okv_i {g : pGG} {x : Int32} : okv g (.int x) := fun i h => by cases h
theorem okv_l {g : pGG} {x : Int64} : okv g (.long x) := fun i h => by cases h
theorem okv_n {g : pGG} : okv g .null := fun i h => by cases h
theorem okS_c {g : pGG} {v : Value} {S : List Value} (h : okv g v) (hS : okS g S) : okS g (v :: S) := List.forall_mem_cons.mpr ⟨h, hS⟩
theorem okS_t {g : pGG} {v : Value} {S : List Value} (h : okS g (v :: S)) : okS g S := (List.forall_mem_cons.mp h).2
theorem okS_h {g : pGG} {v : Value} {S : List Value} (h : okS g (v :: S)) : okv g v := (List.forall_mem_cons.mp h).1
def fvl (ad : Nat → Nat) (g : pGG) (mi : pMI) (c o k : Nat) : Value := if rfk (tyC c k) = true then va_rf ((g.2.2 o k).map ad) else .int (mi o k)
def entE (dA : Nat → ClassId) (ad : Nat → Nat) (g : pGG) (mi : pMI) (ml : pML) (i : Nat) : va_E :=
  if (g.2.1 i).1 < 13 then .inr ((g.2.1 i).1, (List.range (nfC (g.2.1 i).1)).map (fvl ad g mi (g.2.1 i).1 i))
  else if (g.2.1 i).1 = 20 then .inl (dA 0, (g.2.1 i).2, .inl (mi i))
  else if (g.2.1 i).1 = 21 then .inl (dA 1, (g.2.1 i).2, .inr (.inl (ml i)))
  else if (g.2.1 i).1 = 22 then .inl (dA 2, (g.2.1 i).2, .inl (mi i))
  else if (g.2.1 i).1 = 23 then .inl (dA 3, (g.2.1 i).2, .inr (.inr (.inr (.inr (fun j => (g.2.2 i j).map ad)))))
  else .inl (dA 4, (g.2.1 i).2, .inr (.inr (.inr (.inr (fun j => (g.2.2 i j).map ad)))))
theorem entE_obj {dA : Nat → ClassId} {ad : Nat → Nat} {g : pGG} {mi : pMI} {ml : pML} {i c z : Nat} (h : g.2.1 i = (c, z)) (hc : c < 13) : entE dA ad g mi ml i = .inr (c, (List.range (nfC c)).map (fvl ad g mi c i)) := by
  unfold entE; rw [h, if_pos hc]
theorem entE_int {dA : Nat → ClassId} {ad : Nat → Nat} {g : pGG} {mi : pMI} {ml : pML} {i n : Nat} (h : g.2.1 i = (20, n)) : entE dA ad g mi ml i = .inl (dA 0, n, .inl (mi i)) := by
  unfold entE; rw [h]; rfl
theorem entE_long {dA : Nat → ClassId} {ad : Nat → Nat} {g : pGG} {mi : pMI} {ml : pML} {i n : Nat} (h : g.2.1 i = (21, n)) : entE dA ad g mi ml i = .inl (dA 1, n, .inr (.inl (ml i))) := by
  unfold entE; rw [h]; rfl
theorem entE_bool {dA : Nat → ClassId} {ad : Nat → Nat} {g : pGG} {mi : pMI} {ml : pML} {i n : Nat} (h : g.2.1 i = (22, n)) : entE dA ad g mi ml i = .inl (dA 2, n, .inl (mi i)) := by
  unfold entE; rw [h]; rfl
theorem entE_arr {dA : Nat → ClassId} {ad : Nat → Nat} {g : pGG} {mi : pMI} {ml : pML} {i n : Nat} (h : g.2.1 i = (23, n)) : entE dA ad g mi ml i = .inl (dA 3, n, .inr (.inr (.inr (.inr (fun j => (g.2.2 i j).map ad))))) := by
  unfold entE; rw [h]; rfl
theorem entE_img {dA : Nat → ClassId} {ad : Nat → Nat} {g : pGG} {mi : pMI} {ml : pML} {i n : Nat} (h : g.2.1 i = (24, n)) : entE dA ad g mi ml i = .inl (dA 4, n, .inr (.inr (.inr (.inr (fun j => (g.2.2 i j).map ad))))) := by
  unfold entE; rw [h]; rfl
def wsO (dA : Nat → ClassId) (ad : Nat → Nat) (g : pGG) (mi : pMI) (ml : pML) : va_W := (List.range g.1).map (fun i => (ad i, entE dA ad g mi ml i))
theorem wsO_at {dA : Nat → ClassId} {ad : Nat → Nat} {g : pGG} {mi : pMI} {ml : pML} {i : Nat} (h : i < g.1) : (wsO dA ad g mi ml)[i]? = some (ad i, entE dA ad g mi ml i) := by
  unfold wsO; rw [List.getElem?_map, List.getElem?_range h]; rfl
theorem wsO_set {dA : Nat → ClassId} {ad : Nat → Nat} {g g' : pGG} {mi mi' : pMI} {ml ml' : pML} {o : Nat} {e : va_E} (ho : o < g.1) (hg : g'.1 = g.1) (he : entE dA ad g' mi' ml' o = e) (hne : ∀ i, i ≠ o → entE dA ad g' mi' ml' i = entE dA ad g mi ml i) : (wsO dA ad g mi ml).set o (ad o, e) = wsO dA ad g' mi' ml' := by
  apply List.ext_getElem?
  intro i
  by_cases hi : i < g.1
  · rw [wsO_at (by rw [hg]; exact hi)]
    by_cases h : i = o
    · subst h
      rw [List.getElem?_set_self (by unfold wsO; simpa using hi), he]
    · rw [List.getElem?_set_ne (Ne.symm h), wsO_at hi, hne i h]
  · rw [List.getElem?_eq_none (by unfold wsO; simp; omega), List.getElem?_eq_none (by unfold wsO; simp; omega)]
def up2 {α : Type} (m : Nat → Nat → α) (o k : Nat) (v : α) : Nat → Nat → α := fun a b => if a = o ∧ b = k then v else m a b
theorem up2_row {α : Type} {m : Nat → Nat → α} {o k : Nat} {v : α} {i : Nat} (h : i ≠ o) : up2 m o k v i = m i := by
  funext b; simp [up2, h]
def tysO (dA : Nat → ClassId) : List (ClassId × FieldType) := [(dA 0, .int), (dA 1, .long), (dA 2, .boolean), (dA 3, .array .int), (dA 4, .object "PoolTowels$Image")]
def regA (Γ : pTG) : Nat → Prop := fun q => Γ.2.2.2.1 ≤ q
def RepH (Γ : pTG) (ad : Nat → Nat) (g : pGG) (mi : pMI) (ml : pML) (H : Heap) : Prop :=
  va_P Γ.2.1 vwCl (wsO Γ.2.2.1 ad g mi ml) H ∧ va_D (regA Γ) (wsO Γ.2.2.1 ad g mi ml) ∧ (∀ i, i < g.1 → ∀ k r, g.2.2 i k = some r → r < g.1) ∧ (∀ j, ad (999 + j) = Γ.2.2.2.2.2.1 j) ∧ g.1 ≤ 900 ∧ (∀ i, g.1 ≤ i → (g.2.1 i).1 = 99) ∧ (∀ i, (g.2.1 i).2 < 65536)
def strLen : List Nat := [25, 70, 4, 4]
def strByt : List (List Int32) := [("chair guest goes off hire".toUTF8.toList.map fun b => Int32.ofNat b.toNat), ("mine first last got lain off day wish wake chairs guests least most if".toUTF8.toList.map fun b => Int32.ofNat b.toNat), ("then".toUTF8.toList.map fun b => Int32.ofNat b.toNat), ("else".toUTF8.toList.map fun b => Int32.ofNat b.toNat)]
def strTab : List (String × Nat × String) := [("PoolTowels$Pool", 65, "chair guest goes off hire"), ("PoolTowels$HabitReader", 70, "mine first last got lain off day wish wake chairs guests least most if"), ("PoolTowels$HabitReader", 85, "then"), ("PoolTowels$HabitReader", 91, "else"), ("PoolTowels", 388, "no such guest"), ("PoolTowels", 393, "no such chair"), ("PoolTowels", 397, "a number that is none such"), ("PoolTowels", 402, "more guests than mornings are sought for")]
def cstW : List (String × String) := [("java/util/NoSuchElementException", "java/util/NoSuchElementException"), ("java/lang/IllegalArgumentException", "java/lang/IllegalArgumentException"), ("java/lang/IllegalStateException", "java/lang/IllegalStateException")]
def ncW : List (String × String) := [("java/util/NoSuchElementException", "java/lang/IllegalArgumentException"), ("java/util/NoSuchElementException", "java/lang/IllegalStateException"), ("java/lang/IllegalArgumentException", "java/util/NoSuchElementException"), ("java/lang/IllegalArgumentException", "java/lang/IllegalStateException"), ("java/lang/IllegalStateException", "java/lang/IllegalArgumentException"), ("java/lang/IllegalStateException", "java/util/NoSuchElementException")]
def nstW : List (String × Nat × MethodName × String) := [("PoolTowels", 24, yX8_init, "PoolTowels"), ("PoolTowels", 34, yX6_init, "PoolTowels"), ("PoolTowels", 50, yX0_init, "PoolTowels"), ("PoolTowels", 90, yX1_init, "PoolTowels"), ("PoolTowels$Changes", 42, yX7_init, "PoolTowels")]
def dclW : List MethodName := [⟨"java/lang/RuntimeException", "<init>", "(Ljava/lang/String;)V"⟩, ⟨"java/lang/Exception", "<init>", "(Ljava/lang/String;)V"⟩, ⟨"java/lang/Throwable", "<init>", "(Ljava/lang/String;)V"⟩]
theorem va_AOA_moved {ty : FieldType} {u U : State} (hvm : u.vm.Alike U.vm) (h : va_AOA ty u) : va_AOA ty U := by
  unfold va_AOA Cond.before Cond.holds at h ⊢
  simp only [Cond.value] at h ⊢
  rw [hvm.findClass, hvm.findClass]
  cases hc : u.vm.findClass (FieldType.array ty).toString with
  | none => rw [hc] at h; exact h
  | some comp =>
    rw [hc] at h
    simp only [Option.bind_some] at h ⊢
    have hi : (U.vm.classes.findIdx? fun (x : Class) => match x.kind with | .array component _ => component == comp | _ => false) = (u.vm.classes.findIdx? fun (x : Class) => match x.kind with | .array component _ => component == comp | _ => false) := by
      have a := va_idx_bare U.vm comp
      have b := va_idx_bare u.vm comp
      have e : U.vm.bare = u.vm.bare := by first | exact hvm.bare_eq | exact hvm.bare_eq.symm
      rw [e] at a
      exact a.symm.trans b
    erw [hi]
    revert h
    generalize (u.vm.classes.findIdx? fun (x : Class) => match x.kind with | .array component _ => component == comp | _ => false) = oi
    intro h
    cases oi with
    | none => exact h
    | some c =>
      simp only [Option.bind_some] at h ⊢
      cases hk : u.vm.classes[c]? with
      | none => rw [hk] at h; simp at h
      | some k =>
        obtain ⟨k', hk', he⟩ := hvm.2.2 _ _ hk
        rw [hk] at h
        rw [hk']
        simp only [Option.map_some] at h ⊢
        rw [he]
        exact h
def nwP (s : State) : Prop := va_AO "PoolTowels$Image" s ∧ va_AOA .int s ∧ (∀ q ∈ dclW, va_Nw (.declares q) s) ∧ (∀ q ∈ cstW, va_Nw (.castable q.1 q.2) s) ∧ (∀ q ∈ nstW, va_Nw (.methodLinkNest q.1 q.2.1 q.2.2.1 q.2.2.2) s) ∧ (∀ q ∈ ncW, va_Nc q.1 q.2 s)
theorem nwP_same {s U : State} (hv : U.vm = s.vm) (h : nwP s) : nwP U := ⟨h.1.moved (by rw [hv]; exact Vm.Alike.refl s.vm), va_AOA_moved (by rw [hv]; exact Vm.Alike.refl s.vm) h.2.1, fun q hq => (h.2.2.1 q hq).same rfl hv.symm, fun q hq => (h.2.2.2.1 q hq).same rfl hv.symm, fun q hq => (h.2.2.2.2.1 q hq).same rfl hv.symm, fun q hq => by unfold va_Nc; rw [hv]; exact h.2.2.2.2.2 q hq⟩
theorem nwP_warm {s U : State} (hW : s.WarmedH U.vm) (h : nwP s) : nwP U := ⟨h.1.moved hW.alike, va_AOA_moved hW.alike h.2.1, fun q hq => (h.2.2.1 q hq).warmD hW, fun q hq => (h.2.2.2.1 q hq).warmC hW, fun q hq => (h.2.2.2.2.1 q hq).warmM hW, fun q hq => (h.2.2.2.2.2 q hq).moved hW.alike⟩
def extS (Γ : pTG) (s : State) : Prop :=
  nwP s ∧
  va_K Γ.2.1 vwCl (tysO Γ.2.2.1) s ∧ va_X (Γ.2.2.2.2.2.1 0) Γ.2.2.2.2.1.1 Γ.2.2.2.2.1.2 s s.heap ∧ Γ.2.2.2.2.2.1 0 < Γ.2.2.2.1 ∧ Γ.2.2.2.1 ≤ s.heap.size ∧
  vx_Zq Bundle.tN "UNASSIGNED_STACK" Bundle.steD (regA Γ) s s.heap ∧ vx_Zq Bundle.tN "SUPPRESSED_SENTINEL" Bundle.listD (regA Γ) s s.heap ∧
  (vk_S 4 strLen strByt (fun j => Γ.2.2.2.2.2.1 (1 + j)) (fun j => Γ.2.2.2.2.2.1 (101 + j)) (regA Γ) s s.heap ∧ va_Z "java/lang/String" "COMPACT_STRINGS" "Z" (.int 1) (regA Γ) s s.heap ∧ (va_Z "jdk/internal/util/Preconditions" "SIOOBE_FORMATTER" "Ljava/util/function/BiFunction;" .null (regA Γ) s s.heap ∨ va_Z "jdk/internal/util/Preconditions" "SIOOBE_FORMATTER" "Ljava/util/function/BiFunction;" (.ref (Γ.2.2.2.2.2.1 11)) (regA Γ) s s.heap)) ∧ (∀ j q, strTab[j]? = some q → vk_R q.1 q.2.1 q.2.2 (Γ.2.2.2.2.2.1 (1 + j)) s) ∧ Γ.1.stackTraces = false

theorem extS_moved {Γ : pTG} {s U : State} (h : extS Γ s) (hvm : s.vm.Alike U.vm) (hR : ∀ o k tx a, vk_R o k tx a s → vk_R o k tx a U) (hN : nwP s → nwP U) (hz : s.heap.size ≤ U.heap.size) (hk : ∀ q, q < s.heap.size → ¬ regA Γ q → U.heap[q]? = s.heap[q]?) : extS Γ U := by
  obtain ⟨h0, h1, h2, h3, h4, h5, h6, h7, h8, h9⟩ := h
  refine ⟨hN h0, va_K.moved hvm h1, ?_, h3, Nat.le_trans h4 hz, (vx_Zq.kept h5 hk).moved hvm, (vx_Zq.kept h6 hk).moved hvm, ⟨vk_S.moved hvm (vk_S.kept h7.1 hk), (va_Z.kept h7.2.1 hk).moved hvm, h7.2.2.elim (fun q => Or.inl ((va_Z.kept q hk).moved hvm)) (fun q => Or.inr ((va_Z.kept q hk).moved hvm))⟩, fun j q hq => hR _ _ _ _ (h8 j q hq), h9⟩
  exact va_X.moved hvm (h2.kept (hk _ (Nat.lt_of_lt_of_le h3 h4) (Nat.not_le.mpr h3)))
theorem extS_vm {Γ : pTG} {s U : State} (h : extS Γ s) (hv : U.vm = s.vm) (hh : U.heap = s.heap) : extS Γ U :=
  extS_moved h (by rw [hv]; exact Vm.Alike.refl s.vm) (fun _ _ _ _ q => q.same hv) (nwP_same hv) (by rw [hh]; exact Nat.le_refl _) (fun q _ _ => by rw [hh])
theorem extS_warm {Γ : pTG} {s U : State} {H : Heap} {locs : List Loc} (h : extS Γ s) (hW : s.WarmedH U.vm) (hS : va_S (regA Γ) s.heap H locs) (hh : U.heap = H) : extS Γ U :=
  extS_moved h hW.alike (fun _ _ _ _ q => q.warm hW) (nwP_warm hW) (by rw [hh]; exact hS.1) (fun q h1 h2 => by rw [hh]; exact hS.2.1 q h1 h2)
/-- how a method ends, in the world's words -/
def QcM (Γ : pTG) (Q : pQ) (ad0 : Nat → Nat) (n0 : Nat) : Array Value → State → Outcome → State → Prop := fun _ st o t =>
  (∃ (v : Option Value) (g : pGG) (mi : pMI) (ml : pML) (ad : Nat → Nat), o = .returned (v.map (cv ad)) ∧ Q (.inl v) g mi ml ∧ RepH Γ ad g mi ml t.heap ∧ (∀ i, i < n0 → ad i = ad0 i) ∧ n0 ≤ g.1 ∧ (∀ w, v = some w → okv g w)) ∧ va_F (regA Γ) st t
def XcM (Γ : pTG) (Q : pQ) (ad0 : Nat → Nat) (n0 : Nat) : String → State → State → Prop := fun E st t =>
  (∃ (g : pGG) (mi : pMI) (ml : pML) (ad : Nat → Nat), Q (.inr E) g mi ml ∧ RepH Γ ad g mi ml t.heap ∧ (∀ i, i < n0 → ad i = ad0 i) ∧ n0 ≤ g.1) ∧ va_F (regA Γ) st t
def wsM (M : pMD) : List Cond := Cond.code M.1 M.2.1 M.2.2.1 M.2.2.2 :: uxW
def rmD (d k n : Nat) : Room := { frames := d, cells := k, slots := n, locals := 50 * d }
def PcM (Γ : pTG) (ad : Nat → Nat) (g : pGG) (mi : pMI) (ml : pML) (args : List Value) : Array Value → State → Prop := va_Pc (args.map (cv ad)) (fun U => RepH Γ ad g mi ml U.heap ∧ extS Γ U)
/-- a method's contract: from this world with these arguments it comes to Q; at most k cells of n slots are new, d frames deep -/
def CT (Γ : pTG) (d k n : Nat) (M : pMD) (args : List Value) (g : pGG) (mi : pMI) (ml : pML) (Q : pQ) : Prop :=
  ∀ ad : Nat → Nat, okS g args → vx_Met Γ.1 M.1 (wsM M) (rmD d k n) (PcM Γ ad g mi ml args) (QcM Γ Q ad g.1) (XcM Γ Q ad g.1) k n (regA Γ)
/-- what stands at a point of a method's body -/
def XP (Γ : pTG) (d k n : Nat) (M : pMD) (L : List (Nat × Value)) (S : List Value) (g : pGG) (mi : pMI) (ml : pML) (p : Program) (s : State) (m : MethodId) (args : Array Value) (meth : Method) (c : Code) (H : Heap) (locs : List Loc) (cells slots mc ms : Nat) (ls : Array Slot) (ad ad0 : Nat → Nat) (n0 : Nat) (R : Room) : Prop :=
  (p.tables.exec = Jvm.exec ∧ c.code = M.2.1 ∧ c.maxLocals = M.2.2.1 ∧ s.vm.findClass M.1.cls = some m.cls ∧ (∀ w ∈ uxW, w.before args s = true) ∧ meth.sig.returnType = M.2.2.2 ∧ meth.locks = false ∧ (∀ x ∈ c.exceptionTable.toList, False) ∧ meth.name = M.1.name) ∧
  extS Γ s ∧ va_S (regA Γ) s.heap H locs ∧ lv_has ls M.2.2.1 (L.map (fun q => (q.1, cv ad q.2))) ∧ RepH Γ ad g mi ml H ∧ okL g L ∧ okS g S ∧ (cells + k ≤ mc ∧ slots + n ≤ ms ∧ mc ≤ R.cells ∧ ms ≤ R.slots ∧ d ≤ R.frames ∧ 50 * d ≤ R.locals) ∧ ((∀ i, i < n0 → ad i = ad0 i) ∧ n0 ≤ g.1)
def XW (Γ : pTG) (d k n : Nat) (M : pMD) (pc : Nat) (L : List (Nat × Value)) (S : List Value) (g : pGG) (mi : pMI) (ml : pML) (Q : pQ) : Prop :=
  ∀ (p : Program) (e : Env) (s : State) (m : MethodId) (args : Array Value) (below : List Frame) (meth : Method) (c : Code) (H : Heap) (locs : List Loc) (cells slots mc ms : Nat) (ls : Array Slot) (ad ad0 : Nat → Nat) (n0 : Nat) (R : Room),
    XP Γ d k n M L S g mi ml p s m args meth c H locs cells slots mc ms ls ad ad0 n0 R →
    W p Γ.1 e R s m args below meth c H locs cells slots (vx_MQ below (QcM Γ Q ad0 n0) (XcM Γ Q ad0 n0) args s mc ms (regA Γ)) (F0 m pc ls (S.map (cv ad)))
theorem blindM {Γ : pTG} {ad : Nat → Nat} {g : pGG} {mi : pMI} {ml : pML} {args : List Value} : FrameBlind (PcM Γ ad g mi ml args) := by
  intro a U f mk h
  obtain ⟨h1, h2, h3⟩ := h
  exact ⟨h1, h2, extS_vm h3 rfl rfl⟩
theorem lv_args_map (ad : Nat → Nat) : ∀ (vs : List Value) (i : Nat), lv_args i (vs.map (cv ad)) = (lv_args i vs).map (fun q => (q.1, cv ad q.2))
  | [], _ => rfl
  | v :: vs, i => by
    simp only [List.map_cons, lv_args, cv_cat]
    rw [lv_args_map ad vs]
theorem lv_args_ok {g : pGG} : ∀ (vs : List Value) (i : Nat), okS g vs → okL g (lv_args i vs)
  | [], _, _ => fun q h => by simp [lv_args] at h
  | v :: vs, i, h => by
    intro q hq
    simp only [lv_args, List.mem_cons] at hq
    rcases hq with rfl | hq
    · exact okS_h h
    · exact lv_args_ok vs _ (okS_t h) q hq
theorem lg_sl_len (ad : Nat → Nat) : ∀ vs : List Value, (lg_sl (vs.map (cv ad))).length = (lg_sl vs).length
  | [] => rfl
  | v :: vs => by
    have ih := lg_sl_len ad vs
    simp only [lg_sl, List.map_cons, List.flatMap_cons, List.length_append, cv_cat] at ih ⊢
    rw [ih]
    by_cases h : v.category = 2
    · rw [if_pos h, if_pos h]; rfl
    · rw [if_neg h, if_neg h]; rfl
theorem CT_of {Γ : pTG} {d k n : Nat} {M : pMD} {as : List Value} {g : pGG} {mi : pMI} {ml : pML} {Q : pQ} (hy : plainName M.1.cls = true) (hl : (lg_sl as).length ≤ M.2.2.1) (h : XW Γ d k n M 0 (lv_args 0 as) [] g mi ml Q) : CT Γ d k n M as g mi ml Q := by
  intro ad hok
  refine vx_ofW (cc := M.2.1) (maxL := M.2.2.1) (ret := M.2.2.2) hy rfl ?_
  intro p e s m args below meth c s₁ B hml htb hv
  obtain ⟨rfl, hRep, hExt⟩ := hv
  have hts := atoms_spec (ws := wsM M) B.pre
  have hown : s.vm.findClass M.1.cls = some m.cls := findClass_of_methodNamed B.named
  have hl2 := lv_entry (as.map (cv ad)) (n := M.2.2.1) (by rw [lg_sl_len]; exact hl)
  rw [lg_entry_eq]
  rw [lv_args_map] at hl2
  exact h p e s m _ below meth c s.heap [] 0 0 k n _ ad ad g.1 _ ⟨⟨B.exec, B.bytes, hml, hown, fun w hw => hts w (List.mem_cons_of_mem _ hw), B.returns, B.notSynchronized, htb, (name_of_methodNamed B.named B.method).1⟩, hExt, va_S.rf, hl2, hRep, lv_args_ok _ _ hok, List.forall_mem_nil _, ⟨Nat.le_of_eq (Nat.zero_add k), Nat.le_of_eq (Nat.zero_add n), Nat.le_refl _, Nat.le_refl _, Nat.le_refl _, Nat.le_refl _⟩, ⟨fun _ _ => rfl, Nat.le_refl _⟩⟩

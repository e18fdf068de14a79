theorem cv_agree {ad ad' : Nat → Nat} {g : pGG} {v : Value} (h : okv g v) (h1 : ∀ i, i < g.1 → ad' i = ad i) (h2 : ∀ j, ad' (999 + j) = ad (999 + j)) : cv ad' v = cv ad v := by
  cases v with
  | ref i =>
    have hq : i < g.1 ∨ 999 ≤ i := h i rfl
    rcases hq with q | q
    · show Value.ref (ad' i) = Value.ref (ad i); rw [h1 i q]
    · show Value.ref (ad' i) = Value.ref (ad i)
      have h3 : ∀ i : Nat, 999 ≤ i → ad' i = ad i := fun i hi => by
        have := h2 (i - 999)
        rwa [show 999 + (i - 999) = i by omega] at this
      rw [h3 i q]
  | _ => rfl
theorem okv_up {g g' : pGG} {v : Value} (h : okv g v) (hg : g.1 ≤ g'.1) : okv g' v := fun i hi => (h i hi).elim (fun q => Or.inl (Nat.lt_of_lt_of_le q hg)) Or.inr
theorem cvS {ad ad' : Nat → Nat} {g : pGG} {S : List Value} (h : okS g S) (h1 : ∀ i, i < g.1 → ad' i = ad i) (h2 : ∀ j, ad' (999 + j) = ad (999 + j)) : S.map (cv ad') = S.map (cv ad) := List.map_congr_left fun v hv => cv_agree (h v hv) h1 h2
theorem cvL {ad ad' : Nat → Nat} {g : pGG} {L : List (Nat × Value)} (h : okL g L) (h1 : ∀ i, i < g.1 → ad' i = ad i) (h2 : ∀ j, ad' (999 + j) = ad (999 + j)) : L.map (fun q => (q.1, cv ad' q.2)) = L.map (fun q => (q.1, cv ad q.2)) := List.map_congr_left fun q hq => by rw [cv_agree (h q hq) h1 h2]
theorem ugood {ws : List Cond} (h : ∀ w ∈ ws, w ∈ uxW) : GoodIn uxW ws := fun w hw => ⟨h w hw, good_of_word (uxW_good (h w hw))⟩
theorem catS {ad : Nat → Nat} (S : List Value) : ((S.map (cv ad)).map fun v => v.category).sum = (S.map fun v => v.category).sum := by
  rw [List.map_map]; congr 1; exact List.map_congr_left fun v _ => cv_cat ad v
section XRUN
variable {Γ : pTG} {p : Program} {e : Env} {R : Room} {s : State} {m : MethodId} {args : Array Value} {below : List Frame} {meth : Method} {c : Code} {H : Heap} {locs : List Loc} {cells slots k' n' pc : Nat} {ls : Array Slot} {st0 rest : List Value} {ad : Nat → Nat} {g : pGG} {Q' : pQ} {QF : State → Prop} {a : Array Value}
theorem xrun (hr : vx_Run p Γ.1 e R s m args below meth c H locs cells slots k' n' (F0 m pc ls st0) rest (QcM Γ Q' ad g.1 a) (XcM Γ Q' ad g.1) (regA Γ)) (hS : va_S (regA Γ) s.heap H locs)
    (kk : ∀ (v : Option Value) (g' : pGG) (mi' : pMI) (ml' : pML) (ad' : Nat → Nat) (H1 : Heap) (locs1 : List Loc), Q' (.inl v) g' mi' ml' → RepH Γ ad' g' mi' ml' H1 → (∀ i, i < g.1 → ad' i = ad i) → g.1 ≤ g'.1 → (∀ w, v = some w → okv g' w) → va_S (regA Γ) s.heap H1 locs1 → W p Γ.1 e R s m args below meth c H1 locs1 (cells + k') (slots + n') QF (F0 m (pc + 3) ls ((v.map (cv ad')).toList ++ rest)))
    (kx : ∀ (E : String) (g' : pGG) (mi' : pMI) (ml' : pML) (ad' : Nat → Nat) (H1 : Heap) (locs1 : List Loc) (q9 : Addr) (ce : Cell), Q' (.inr E) g' mi' ml' → RepH Γ ad' g' mi' ml' H1 → (∀ i, i < g.1 → ad' i = ad i) → g.1 ≤ g'.1 → va_S (regA Γ) s.heap H1 locs1 → H1[q9]? = some ce → ce.vm = .none → s.vm.findClass E = some ce.cls → vx_W p Γ.1 e R s m args below meth c H1 locs1 (cells + k') (slots + n') QF (F0 m pc ls rest) q9) :
    W p Γ.1 e R s m args below meth c H locs cells slots QF (F0 m pc ls st0) := by
  intro T hT X
  rcases hr T hT X with ⟨v, st₀, t, T', L, h0, X', hL, e1, e2, ⟨⟨v0, g', mi', ml', ad', hv, hq, hRep, hag, hn, hok⟩, hF⟩, st⟩ | ⟨q, st₀, t, T', L, E, ce, h0, X', hL, e1, e2, ⟨⟨g', mi', ml', ad', hq, hRep, hag, hn⟩, hF⟩, hce, hcv, hcl, st⟩
  · obtain ⟨k1, k2, k3⟩ := vx_keep h0 e1 hS (fun _ _ h => h) (fun _ h => h) hL hF
    cases hv
    obtain ⟨t2, a1, b1⟩ := kk v0 g' mi' ml' ad' T'.heap (locs ++ L) hq (by rw [e1]; exact hRep) hag hn hok k3 T' rfl X'
    exact ⟨t2, st t2 a1, b1⟩
  · obtain ⟨k1, k2, k3⟩ := vx_keep h0 e1 hS (fun _ _ h => h) (fun _ h => h) hL hF
    obtain ⟨t2, a1, b1⟩ := kx E g' mi' ml' ad' T'.heap (locs ++ L) q ce hq (by rw [e1]; exact hRep) hag hn k3 (by rw [e1]; exact hce) hcv hcl T' rfl X'
    exact ⟨t2, st.trans a1, b1⟩
end XRUN
/-- a call of an instance method, a static one: what the tables say -/
def MLV (own : String) (idx : Nat) (M' : pMD) (c na : Nat) : Prop := c < 13 ∧ M'.1.cls = RC c ∧ (∀ w ∈ wsV own idx (RC c) M'.1 [Cond.code M'.1 M'.2.1 M'.2.2.1 M'.2.2.2], w ∈ uxW) ∧ (M'.1.cls ≠ "java/lang/invoke/MethodHandle" ∧ M'.1.cls ≠ "java/lang/invoke/VarHandle" ∧ (parseMethodDescriptor M'.1.desc).map (fun d => d.parameters.length) = some na) ∧ M'.2.2.1 ≤ 29
def MLS (own : String) (idx : Nat) (M' : pMD) (na : Nat) : Prop := (∀ w ∈ va_wsS own idx M'.1 [Cond.code M'.1 M'.2.1 M'.2.2.1 M'.2.2.2], w ∈ uxW) ∧ (M'.1.cls ≠ "java/lang/invoke/MethodHandle" ∧ M'.1.cls ≠ "java/lang/invoke/VarHandle" ∧ (parseMethodDescriptor M'.1.desc).map (fun d => d.parameters.length) = some na) ∧ M'.2.2.1 ≤ 29
theorem okS_app {g : pGG} {A B : List Value} (h : okS g (A ++ B)) : okS g A ∧ okS g B := ⟨fun v hv => h v (List.mem_append_left _ hv), fun v hv => h v (List.mem_append_right _ hv)⟩

theorem X_callV {Γ : pTG} {d k n : Nat} {M : pMD} {pc : Nat} {L : List (Nat × Value)} {S : List Value} {g : pGG} {mi : pMI} {ml : pML} {Q : pQ} {d' k' n' idx o c z na : Nat} {M' : pMD} {As S0 : List Value} {Q' : pQ} (hd : decode M.2.1 pc = .ok (.invokevirtual idx, 3)) (hm : MLV M.1.cls idx M' c na) (hk : g.2.1 o = (c, z)) (hC : CT Γ d' k' n' M' (.ref o :: As) g mi ml Q') (hS0 : S0 = As.reverse ++ .ref o :: S) (hA : As.length = na) (hd' : d' + 1 ≤ d) (hk' : k' ≤ k) (hn' : n' ≤ n) (hcat : (S.map (fun v => v.category)).sum ≤ 8)
    (kx : ∀ E g' mi' ml', Q' (.inr E) g' mi' ml' → Q (.inr E) g' mi' ml') (kk : ∀ v g' mi' ml', Q' (.inl v) g' mi' ml' → XW Γ d (k - k') (n - n') M (pc + 3) L (v.toList ++ S) g' mi' ml' Q) : XW Γ d k n M pc L S0 g mi ml Q := by
  intro p e s m args below meth cd H locs cells slots mc ms ls ad ad0 n0 R P
  obtain ⟨hc, hE, hS, hl, hRep, hoL, hoS, hr, ha⟩ := P
  subst hS0
  obtain ⟨hc13, hcl0, hws, hdd, hmx⟩ := hm
  have ho := hRep.lt hk (by omega)
  obtain ⟨hArev, hSk0⟩ := okS_app hoS
  have hSk := okS_t hSk0
  have hokA : okS g (.ref o :: As) := okS_c (okS_h hSk0) (fun v hv => hArev v (List.mem_reverse.mpr hv))
  obtain ⟨hr1, hr2, hr3, hr4, hr5, hr6⟩ := id hr
  have hgi : GoodIn uxW (wsV M.1.cls idx (RC c) M'.1 (wsM M')) := ugood fun w hw => by
    rcases List.mem_append.mp hw with h | h
    · exact hws w (List.mem_append_left _ h)
    · rcases List.mem_cons.mp h with rfl | h
      · exact hws _ (List.mem_append_right _ List.mem_cons_self)
      · exact h
  have hrun := vx_runV (H := H) (locs := locs) (cells := cells) (slots := slots) (below := below) (e := e) (meth := meth) (R := R) (g := F0 m pc ls ((As.reverse ++ .ref o :: S).map (cv ad))) (rest := S.map (cv ad)) (As := As.map (cv ad)) (b := ad o) (C := RC c) (n := na) (bytes := M'.2.1) (maxL := M'.2.2.1) (ret := M'.2.2.2)
    ⟨hc.1, hc.2.1, hc.2.2.1, hc.2.2.2.1, hc.2.2.2.2.1⟩ (hC ad hokA) (cwV na hc.2.2.2.2.1 hgi rfl rfl rfl ⟨hcl0, hdd⟩ ⟨by show d' + 1 ≤ R.frames; omega, by show 8 + (M'.2.2.1 + 11) + 50 * d' ≤ R.locals; omega⟩)
    ⟨blindM, va_recv hE.2.1 hRep.1 (clsA hc13).1 (wsO_obj ho hk hc13), fun U hU hW => ⟨rfl, by rw [hU]; exact hRep, extS_warm hE hW hS hU⟩⟩ rfl (by rw [List.length_map]; exact hA) hl.1 (by show (As.reverse ++ .ref o :: S).map (cv ad) = _; rw [List.map_append, List.map_reverse]; rfl) (lv_room (by rw [catS]; exact hcat)) hd ⟨by omega, by omega⟩
  refine xrun hrun hS (fun v g' mi' ml' ad' H1 locs1 hq hRep' hag hn hok hS1 => ?_) (fun E g' mi' ml' ad' H1 locs1 q9 ce hq hRep' hag hn hS1 hce hcv hcl => ?_)
  · have h2 : ∀ j, ad' (999 + j) = ad (999 + j) := fun j => (hRep'.2.2.2.1 j).trans (hRep.2.2.2.1 j).symm
    have e1 : (v.map (cv ad')).toList ++ S.map (cv ad) = (v.toList ++ S).map (cv ad') := by rw [List.map_append, cvS hSk hag h2]; cases v <;> rfl
    rw [e1]
    refine kk v g' mi' ml' hq p e s m args below meth cd H1 locs1 (cells + k') (slots + n') mc ms ls ad' ad0 n0 R ⟨hc, hE, hS1, ?_, hRep', fun q h => okv_up (hoL q h) hn, ?_, ?_, fun i hi => (hag i (Nat.lt_of_lt_of_le hi ha.2)).trans (ha.1 i hi), Nat.le_trans ha.2 hn⟩
    · rw [cvL hoL hag h2]; exact hl
    · intro x hx
      rcases List.mem_append.mp hx with hx | hx
      · cases v with
        | none => cases hx
        | some y => cases hx with
          | head => exact hok _ rfl
          | tail _ h => cases h
      · exact okv_up (hSk x hx) hn
    · exact ⟨by omega, by omega, hr.2.2.1, hr.2.2.2.1, hr.2.2.2.2⟩
  · refine vx_out (fun x hx => (hc.2.2.2.2.2.2.2.1 x hx).elim) hc.2.2.2.2.2.2.1 hce hcv hcl (fun t ht hvm => ⟨⟨g', mi', ml', ad', kx E g' mi' ml' hq, by rw [ht]; exact hRep', fun i hi => (hag i (Nat.lt_of_lt_of_le hi ha.2)).trans (ha.1 i hi), Nat.le_trans ha.2 hn⟩, va_S.F hS1 ht⟩) hS1.2.2 (by omega) (by omega)
theorem X_callS {Γ : pTG} {d k n : Nat} {M : pMD} {pc : Nat} {L : List (Nat × Value)} {S : List Value} {g : pGG} {mi : pMI} {ml : pML} {Q : pQ} {d' k' n' idx na : Nat} {M' : pMD} {As S0 : List Value} {Q' : pQ} (hd : decode M.2.1 pc = .ok (.invokestatic idx, 3)) (hm : MLS M.1.cls idx M' na) (hC : CT Γ d' k' n' M' As g mi ml Q') (hS0 : S0 = As.reverse ++ S) (hA : As.length = na) (hd' : d' + 1 ≤ d) (hk' : k' ≤ k) (hn' : n' ≤ n) (hcat : (S.map (fun v => v.category)).sum ≤ 8)
    (kx : ∀ E g' mi' ml', Q' (.inr E) g' mi' ml' → Q (.inr E) g' mi' ml') (kk : ∀ v g' mi' ml', Q' (.inl v) g' mi' ml' → XW Γ d (k - k') (n - n') M (pc + 3) L (v.toList ++ S) g' mi' ml' Q) : XW Γ d k n M pc L S0 g mi ml Q := by
  intro p e s m args below meth cd H locs cells slots mc ms ls ad ad0 n0 R P
  obtain ⟨hc, hE, hS, hl, hRep, hoL, hoS, hr, ha⟩ := P
  subst hS0
  obtain ⟨hws, hdd, hmx⟩ := hm
  obtain ⟨hArev, hSk⟩ := okS_app hoS
  have hokA : okS g As := fun v hv => hArev v (List.mem_reverse.mpr hv)
  obtain ⟨hr1, hr2, hr3, hr4, hr5, hr6⟩ := id hr
  have hgi : GoodIn uxW (va_wsS M.1.cls idx M'.1 (wsM M')) := ugood fun w hw => by
    rcases List.mem_append.mp hw with h | h
    · exact hws w (List.mem_append_left _ h)
    · rcases List.mem_cons.mp h with rfl | h
      · exact hws _ (List.mem_append_right _ List.mem_cons_self)
      · exact h
  have hrun := vx_runS (H := H) (locs := locs) (cells := cells) (slots := slots) (below := below) (e := e) (meth := meth) (R := R) (g := F0 m pc ls ((As.reverse ++ S).map (cv ad))) (rest := S.map (cv ad)) (As := As.map (cv ad)) (n := na) (bytes := M'.2.1) (maxL := M'.2.2.1) (ret := M'.2.2.2)
    ⟨hc.1, hc.2.1, hc.2.2.1, hc.2.2.2.1, hc.2.2.2.2.1⟩ (hC ad hokA) (va_cwS na hc.2.2.2.2.1 hgi rfl rfl rfl hdd ⟨by show d' + 1 ≤ R.frames; omega, by show 8 + (M'.2.2.1 + 11) + 50 * d' ≤ R.locals; omega⟩)
    ⟨blindM, fun U hU hW => ⟨rfl, by rw [hU]; exact hRep, extS_warm hE hW hS hU⟩⟩ rfl (by rw [List.length_map]; exact hA) hl.1 (by show (As.reverse ++ S).map (cv ad) = _; rw [List.map_append, List.map_reverse]) (lv_room (by rw [catS]; exact hcat)) hd ⟨by omega, by omega⟩
  refine xrun hrun hS (fun v g' mi' ml' ad' H1 locs1 hq hRep' hag hn hok hS1 => ?_) (fun E g' mi' ml' ad' H1 locs1 q9 ce hq hRep' hag hn hS1 hce hcv hcl => ?_)
  · have h2 : ∀ j, ad' (999 + j) = ad (999 + j) := fun j => (hRep'.2.2.2.1 j).trans (hRep.2.2.2.1 j).symm
    have e1 : (v.map (cv ad')).toList ++ S.map (cv ad) = (v.toList ++ S).map (cv ad') := by rw [List.map_append, cvS hSk hag h2]; cases v <;> rfl
    rw [e1]
    refine kk v g' mi' ml' hq p e s m args below meth cd H1 locs1 (cells + k') (slots + n') mc ms ls ad' ad0 n0 R ⟨hc, hE, hS1, ?_, hRep', fun q h => okv_up (hoL q h) hn, ?_, ?_, fun i hi => (hag i (Nat.lt_of_lt_of_le hi ha.2)).trans (ha.1 i hi), Nat.le_trans ha.2 hn⟩
    · rw [cvL hoL hag h2]; exact hl
    · intro x hx
      rcases List.mem_append.mp hx with hx | hx
      · cases v with
        | none => cases hx
        | some y => cases hx with
          | head => exact hok _ rfl
          | tail _ h => cases h
      · exact okv_up (hSk x hx) hn
    · exact ⟨by omega, by omega, hr.2.2.1, hr.2.2.2.1, hr.2.2.2.2⟩
  · refine vx_out (fun x hx => (hc.2.2.2.2.2.2.2.1 x hx).elim) hc.2.2.2.2.2.2.1 hce hcv hcl (fun t ht hvm => ⟨⟨g', mi', ml', ad', kx E g' mi' ml' hq, by rw [ht]; exact hRep', fun i hi => (hag i (Nat.lt_of_lt_of_le hi ha.2)).trans (ha.1 i hi), Nat.le_trans ha.2 hn⟩, va_S.F hS1 ht⟩) hS1.2.2 (by omega) (by omega)
theorem CT_post {Γ : pTG} {d k n : Nat} {M : pMD} {as : List Value} {g : pGG} {mi : pMI} {ml : pML} {Q Q' : pQ} (h : CT Γ d k n M as g mi ml Q') (hQ : ∀ r g mi ml, Q' r g mi ml → Q r g mi ml) : CT Γ d k n M as g mi ml Q := by
  intro ad hok p e h1 h2 h3 s m args below h4 h5 h6 h7
  obtain ⟨n1, o, a1, a2, a3, a4⟩ := h ad hok p e h1 h2 h3 s m args below h4 h5 h6 h7
  refine ⟨n1, o, a1, a2, a3, ?_⟩
  rcases a4 with ⟨⟨⟨v, g', mi', ml', ad', b1, b2, b3⟩, b4⟩, b5⟩ | ⟨q, b0, E, ce, Lc, ⟨⟨g', mi', ml', ad', b1, b2⟩, b3⟩, b4⟩
  · exact Or.inl ⟨⟨⟨v, g', mi', ml', ad', b1, hQ _ _ _ _ b2, b3⟩, b4⟩, b5⟩
  · exact Or.inr ⟨q, b0, E, ce, Lc, ⟨⟨g', mi', ml', ad', hQ _ _ _ _ b1, b2⟩, b3⟩, b4⟩

theorem wsO_cpy {dA : Nat → ClassId} {ad : Nat → Nat} {g : pGG} {mi : pMI} {ml : pML} {a b len sp dp cnt : Nat} (ho : b < g.1) (hk : g.2.1 b = (20, len)) : (wsO dA ad g mi ml).set b (ad b, .inl (dA 0, len, .inl (va_cpy (mi a) (mi b) sp dp cnt))) = wsO dA ad g (fun i j => if i = b then va_cpy (mi a) (mi b) sp dp cnt j else mi i j) ml := by
  refine wsO_set ho rfl ?_ (fun i hi => entE_mi (by funext j; simp [hi]))
  rw [entE_int hk]
  refine congrArg (fun f => (Sum.inl (dA 0, len, Sum.inl f) : va_E)) (funext fun j => ?_)
  simp
/-- System.arraycopy of ints -/
def ACW (own : String) (idx : Nat) : Prop := Cond.methodLink own idx arraycopyName ∈ uxW ∧ Cond.native arraycopyName ∈ uxW ∧ Cond.static arraycopyName ∈ uxW ∧ Cond.initialized "java/lang/System" ∈ uxW
theorem X_copy {Γ : pTG} {d k n : Nat} {M : pMD} {pc : Nat} {L : List (Nat × Value)} {S : List Value} {g : pGG} {mi : pMI} {ml : pML} {Q : pQ} {idx a b la lb : Nat} {isp idp icnt : Int32} (sp dp cnt : Nat) (hd : decode M.2.1 pc = .ok (.invokestatic idx, 3)) (hm : ACW M.1.cls idx) (hka : g.2.1 a = (20, la)) (hkb : g.2.1 b = (20, lb)) (h1 : isp = nI sp) (h2 : idp = nI dp) (h3 : icnt = nI cnt) (h4 : sp + cnt ≤ la) (h5 : dp + cnt ≤ lb) (h6 : 1 ≤ d) (h7 : (S.map (fun v => v.category)).sum ≤ 8)
    (h : XW Γ d k n M (pc + 3) L S g (fun i j => if i = b then va_cpy (mi a) (mi b) sp dp cnt j else mi i j) ml Q) : XW Γ d k n M pc L (.int icnt :: .int idp :: .ref b :: .int isp :: .ref a :: S) g mi ml Q := by
  intro p e s m args below meth cd H locs cells slots mc ms ls ad ad0 n0 R P
  obtain ⟨hc, hE, hS, hl, hRep, hoL, hoS, hr, ha⟩ := P
  have hoa := hRep.lt hka (by decide)
  have hob := hRep.lt hkb (by decide)
  have hla := hRep.len hka
  have hlb := hRep.len hkb
  subst h1; subst h2; subst h3
  have e1 : (nI sp).toNatClampNeg = sp := nI_clamp (by omega)
  have e2 : (nI dp).toNatClampNeg = dp := nI_clamp (by omega)
  have e3 : (nI cnt).toNatClampNeg = cnt := nI_clamp (by omega)
  obtain ⟨hr1, hr2, hr3, hr4, hr5, hr6⟩ := id hr
  have hnf : nativeFrameWords "java/lang/System" "arraycopy" 5 + 11 ≤ 40 := by decide
  refine va_copyi (cl := vwCl) (tys := tysO Γ.2.2.1) (D := Γ.2.1) (ty := .int) (c0 := Γ.2.2.1 0) (c1 := Γ.2.2.1 0) (n0 := la) (n1 := lb) (f := mi a) (g := mi b) hc.1 hc.2.1 (by rw [hc.2.2.1]; exact hl.1.symm) hc.2.2.2.1 (hc.2.2.2.2.1 _ hm.1) (hc.2.2.2.2.1 _ hm.2.1) (hc.2.2.2.2.1 _ hm.2.2.1) (hc.2.2.2.2.1 _ hm.2.2.2) hE.2.1 hRep.1 hRep.2.1 hS a b 0 0 ((wsO_at hoa).trans (by rw [entE_int hka])) ((wsO_at hob).trans (by rw [entE_int hkb])) rfl rfl rfl (nI_pos (by omega)) (nI_pos (by omega)) (nI_pos (by omega)) (by rw [e1, e3]; exact h4) (by rw [e2, e3]; exact h5) (fun _ _ => rfl) (by omega) (by rw [catS]; omega) hd (fun H1 locs1 hP1 hD1 hS1 => ?_)
  rw [e1, e2, e3, wsO_cpy hob hkb] at hP1 hD1
  exact h p e s m args below meth cd H1 locs1 cells slots mc ms ls ad ad0 n0 R ⟨hc, hE, hS1, hl, hRep.mi hP1 hD1, hoL, okS_t (okS_t (okS_t (okS_t (okS_t hoS)))), hr, ha⟩
def MMW (own : String) (idx : Nat) : Prop := Cond.methodLink own idx Lib.Math.min.name ∈ uxW ∧ Cond.static Lib.Math.min.name ∈ uxW ∧ Cond.initialized "java/lang/Math" ∈ uxW ∧ Cond.code Lib.Math.min.name Lib.Math.min.code 2 (some .int) ∈ uxW
def MXW (own : String) (idx : Nat) : Prop := Cond.methodLink own idx Lib.Math.max.name ∈ uxW ∧ Cond.static Lib.Math.max.name ∈ uxW ∧ Cond.initialized "java/lang/Math" ∈ uxW ∧ Cond.code Lib.Math.max.name Lib.Math.max.code 2 (some .int) ∈ uxW
theorem X_min {Γ : pTG} {d k n : Nat} {M : pMD} {pc : Nat} {L : List (Nat × Value)} {S : List Value} {g : pGG} {mi : pMI} {ml : pML} {Q : pQ} {idx : Nat} {x y : Int32} (hd : decode M.2.1 pc = .ok (.invokestatic idx, 3)) (hm : MMW M.1.cls idx) (h6 : 1 ≤ d) (h7 : (S.map (fun v => v.category)).sum ≤ 8) (h : XW Γ d k n M (pc + 3) L (.int (if y < x then y else x) :: S) g mi ml Q) : XW Γ d k n M pc L (.int y :: .int x :: S) g mi ml Q := by
  intro p e s m args below meth cd H locs cells slots mc ms ls ad ad0 n0 R P
  obtain ⟨hc, hE, hS, hl, hRep, hoL, hoS, hr, ha⟩ := P
  obtain ⟨hr1, hr2, hr3, hr4, hr5, hr6⟩ := id hr
  exact va_mmin hc.1 hc.2.1 (by rw [hc.2.2.1]; exact hl.1.symm) hc.2.2.2.1 (hc.2.2.2.2.1 _ hm.1) (hc.2.2.2.2.1 _ hm.2.1) (hc.2.2.2.2.1 _ hm.2.2.1) (hc.2.2.2.2.1 _ hm.2.2.2) (by omega) (by rw [catS]; omega) (by omega) (by omega) hd (h p e s m args below meth cd H locs cells slots mc ms ls ad ad0 n0 R ⟨hc, hE, hS, hl, hRep, hoL, okS_c okv_i (okS_t (okS_t hoS)), hr, ha⟩)
theorem X_max {Γ : pTG} {d k n : Nat} {M : pMD} {pc : Nat} {L : List (Nat × Value)} {S : List Value} {g : pGG} {mi : pMI} {ml : pML} {Q : pQ} {idx : Nat} {x y : Int32} (hd : decode M.2.1 pc = .ok (.invokestatic idx, 3)) (hm : MXW M.1.cls idx) (h6 : 1 ≤ d) (h7 : (S.map (fun v => v.category)).sum ≤ 8) (h : XW Γ d k n M (pc + 3) L (.int (if x < y then y else x) :: S) g mi ml Q) : XW Γ d k n M pc L (.int y :: .int x :: S) g mi ml Q := by
  intro p e s m args below meth cd H locs cells slots mc ms ls ad ad0 n0 R P
  obtain ⟨hc, hE, hS, hl, hRep, hoL, hoS, hr, ha⟩ := P
  obtain ⟨hr1, hr2, hr3, hr4, hr5, hr6⟩ := id hr
  exact va_mmax hc.1 hc.2.1 (by rw [hc.2.2.1]; exact hl.1.symm) hc.2.2.2.1 (hc.2.2.2.2.1 _ hm.1) (hc.2.2.2.2.1 _ hm.2.1) (hc.2.2.2.2.1 _ hm.2.2.1) (hc.2.2.2.2.1 _ hm.2.2.2) (by omega) (by rw [catS]; omega) (by omega) (by omega) hd (h p e s m args below meth cd H locs cells slots mc ms ls ad ad0 n0 R ⟨hc, hE, hS, hl, hRep, hoL, okS_c okv_i (okS_t (okS_t hoS)), hr, ha⟩)


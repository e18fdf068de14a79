/-! ===== the law ===== -/
theorem XW_k {Γ : pTG} {d k n k' n' : Nat} {M : pMD} {pc : Nat} {L : List (Nat × Value)} {S : List Value} {g : pGG} {mi : pMI} {ml : pML} {Q : pQ} (hk : k ≤ k') (hn : n ≤ n') (hx : XW Γ d k n M pc L S g mi ml Q) : XW Γ d k' n' M pc L S g mi ml Q := by
  intro p e s m args below meth c H locs cells slots mc ms ls ad ad0 n0 R P
  obtain ⟨hc, hE, hS, hl, hRep, hoL, hoS, ⟨q1, q2, q3, q4, q5, q6⟩, ha⟩ := P
  exact hx p e s m args below meth c H locs cells slots mc ms ls ad ad0 n0 R ⟨hc, hE, hS, hl, hRep, hoL, hoS, ⟨by omega, by omega, q3, q4, q5, q6⟩, ha⟩
theorem X_xld {Γ : pTG} {d k n : Nat} {M : pMD} {pc : Nat} {L : List (Nat × Value)} {S : List Value} {g : pGG} {mi : pMI} {ml : pML} {Q : pQ} {i : Int32} (j : Nat) (hd : decode M.2.1 pc = .ok (.iaload, 1)) (hi : i = nI j) (hj : j < Γ.2.2.2.2.1.1) (hL : Γ.2.2.2.2.1.1 ≤ 4096) (h : XW Γ d k n M (pc + 1) L (.int (Γ.2.2.2.2.1.2 j) :: S) g mi ml Q) : XW Γ d k n M pc L (.int i :: .ref 999 :: S) g mi ml Q := by
  intro p e s m args below meth cd H locs cells slots mc ms ls ad ad0 n0 R P
  obtain ⟨hc, hE, hS, hl, hRep, hoL, hoS, hr, ha⟩ := P
  obtain ⟨hin, hcl⟩ := nI_ix hi hj (by omega)
  have e9 : ad 999 = Γ.2.2.2.2.2.1 0 := hRep.2.2.2.1 0
  show W p Γ.1 e R s m args below meth cd H locs cells slots _ (F0 m pc ls (.int i :: .ref (ad 999) :: S.map (cv ad)))
  rw [e9]
  refine va_sld hc.1 hc.2.1 hE.2.2.1 (Nat.lt_of_lt_of_le hE.2.2.2.1 hE.2.2.2.2.1) (fun q => absurd hE.2.2.2.1 (Nat.not_lt.mpr q)) hS hin hd ?_
  rw [hcl]
  exact (h p e s m args below meth cd H locs cells slots mc ms ls ad ad0 n0 R ⟨hc, hE, hS, hl, hRep, hoL, okS_c okv_i (okS_t (okS_t hoS)), hr, ha⟩)
theorem X_xlen {Γ : pTG} {d k n : Nat} {M : pMD} {pc : Nat} {L : List (Nat × Value)} {S : List Value} {g : pGG} {mi : pMI} {ml : pML} {Q : pQ} (hd : decode M.2.1 pc = .ok (.arraylength, 1)) (h : XW Γ d k n M (pc + 1) L (.int (nI Γ.2.2.2.2.1.1) :: S) g mi ml Q) : XW Γ d k n M pc L (.ref 999 :: S) g mi ml Q := by
  intro p e s m args below meth cd H locs cells slots mc ms ls ad ad0 n0 R P
  obtain ⟨hc, hE, hS, hl, hRep, hoL, hoS, hr, ha⟩ := P
  have e9 : ad 999 = Γ.2.2.2.2.2.1 0 := hRep.2.2.2.1 0
  show W p Γ.1 e R s m args below meth cd H locs cells slots _ (F0 m pc ls (.ref (ad 999) :: S.map (cv ad)))
  rw [e9]
  exact va_slen hc.1 hc.2.1 hE.2.2.1 (Nat.lt_of_lt_of_le hE.2.2.2.1 hE.2.2.2.2.1) (fun q => absurd hE.2.2.2.1 (Nat.not_lt.mpr q)) hS hd (h p e s m args below meth cd H locs cells slots mc ms ls ad ad0 n0 R ⟨hc, hE, hS, hl, hRep, hoL, okS_c okv_i (okS_t hoS), hr, ha⟩)
theorem X_tswI {Γ : pTG} {d k n : Nat} {M : pMD} {pc : Nat} {L : List (Nat × Value)} {S : List Value} {g : pGG} {mi : pMI} {ml : pML} {Q : pQ} {dflt lo hi : Int} {offs : Array Int} {len : Nat} {x : Int32} {off : Int} (tgt : Nat) (hd : decode M.2.1 pc = .ok (.tableswitch dflt lo hi offs, len)) (h1 : ¬ x.toInt < lo) (h2 : ¬ hi < x.toInt) (ho : offs[(x.toInt - lo).toNat]? = some off) (ht : (pc : Int) + off = (tgt : Int)) (h : XW Γ d k n M tgt L S g mi ml Q) : XW Γ d k n M pc L (.int x :: S) g mi ml Q := by
  intro p e s m args below meth cd H locs cells slots mc ms ls ad ad0 n0 R P
  obtain ⟨hc, hE, hS, hl, hRep, hoL, hoS, hr, ha⟩ := P
  exact lv_tableIn hc.1 hc.2.1 hd h1 h2 ho ht (h p e s m args below meth cd H locs cells slots mc ms ls ad ad0 n0 R ⟨hc, hE, hS, hl, hRep, hoL, okS_t hoS, hr, ha⟩)
theorem X_tswO {Γ : pTG} {d k n : Nat} {M : pMD} {pc : Nat} {L : List (Nat × Value)} {S : List Value} {g : pGG} {mi : pMI} {ml : pML} {Q : pQ} {dflt lo hi : Int} {offs : Array Int} {len : Nat} {x : Int32} (tgt : Nat) (hd : decode M.2.1 pc = .ok (.tableswitch dflt lo hi offs, len)) (h1 : x.toInt < lo ∨ hi < x.toInt) (ht : (pc : Int) + dflt = (tgt : Int)) (h : XW Γ d k n M tgt L S g mi ml Q) : XW Γ d k n M pc L (.int x :: S) g mi ml Q := by
  intro p e s m args below meth cd H locs cells slots mc ms ls ad ad0 n0 R P
  obtain ⟨hc, hE, hS, hl, hRep, hoL, hoS, hr, ha⟩ := P
  exact lv_tableOut hc.1 hc.2.1 hd h1 ht (h p e s m args below meth cd H locs cells slots mc ms ls ad ad0 n0 R ⟨hc, hE, hS, hl, hRep, hoL, okS_t hoS, hr, ha⟩)
theorem mlh_mk {own : String} {idx na : Nat} {M' : pMD} {hh : List (Nat × Nat × Nat × Nat)} (h1 : Cond.methodLink own idx M'.1 ∈ uxW) (h2 : Cond.static M'.1 ∈ uxW) (h3 : Cond.initialized M'.1.cls ∈ uxW) (h4 : Cond.codeWith M'.1 M'.2.1 M'.2.2.1 M'.2.2.2 hh ∈ uxW) (h5 : M'.1.cls ≠ "java/lang/invoke/MethodHandle" ∧ M'.1.cls ≠ "java/lang/invoke/VarHandle" ∧ (parseMethodDescriptor M'.1.desc).map (fun d => d.parameters.length) = some na) (h6 : M'.2.2.1 ≤ 29) : MLH own idx M' hh na := by
  refine ⟨fun w hw => ?_, h5, h6⟩
  simp only [va_wsS, List.cons_append, List.nil_append, List.mem_cons, List.not_mem_nil, or_false] at hw
  rcases hw with rfl | rfl | rfl | rfl <;> assumption
/-- both sides hold the same state -/
def LI (A : AS) (g : pGG) (m : pMI) (l : pML) : Prop := okAS A ∧ CI A g m l ∧ RI A m
theorem RI_K {A : AS} {m m' : pMI} (hA : okAS A) (h : RI A m) (e : frK m m') : RI A m' := RI_fr hA h ⟨fun i h1 h2 _ => e i (by omega) (by omega), fun j _ => by rw [e 87 (by omega) (by omega)]⟩
theorem CI_M2 {A : AS} {g : pGG} {m m' : pMI} {l : pML} (h : CI A g m l) (e : frM2 m m') : CI A g m' l := CI_fr h ⟨fun i h1 _ _ _ _ _ => e i (by omega), fun j _ => by rw [e 17 (by omega)], by rw [e 2 (by omega)], by rw [e 47 (by omega)], by rw [e 67 (by omega)]⟩ rfl
theorem cmp_same (x : Int64) : lg_cmp x x = nI 0 := by unfold lg_cmp; simp; rfl
theorem cd_ne {c : Nat} (h : ¬ c = 0) (h2 : c ≤ 2) : ¬ nI c = 0 := nI_ne0 (by omega) (by omega)
theorem cd0_le (j : Nat) : cd0 j ≤ 2 := by unfold cd0; split <;> omega
theorem cd1_le (j : Nat) : cd1 j ≤ 2 := by unfold cd1; split <;> omega
theorem cd2_le (j : Nat) : cd2 j ≤ 2 := by unfold cd2; split; omega; split <;> omega
theorem cd3_le (j : Nat) : cd3 j ≤ 2 := by unfold cd3; split; omega; split <;> omega
theorem mhL_127 : MLH RL 127 mL_pool hhL_pool 3 := mlh_mk (u_t3 231 (by decide +kernel) (by decide +kernel)) (u_t3 232 (by decide +kernel) (by decide +kernel)) inzL (u_t3 233 (by decide +kernel) (by decide +kernel)) ⟨by decide +kernel, by decide +kernel, by decide +kernel⟩ (by decide)
theorem mhL_137 : MLH RL 137 mL_habit hhL_habit 4 := mlh_mk (u_t4 209 (by decide +kernel) (by decide +kernel)) (u_t4 210 (by decide +kernel) (by decide +kernel)) inzL (u_t4 211 (by decide +kernel) (by decide +kernel)) ⟨by decide +kernel, by decide +kernel, by decide +kernel⟩ (by decide)
theorem mhL_141 : MLH RL 141 mL_book hhL_book 3 := mlh_mk (u_t5 51 (by decide +kernel) (by decide +kernel)) (u_t5 52 (by decide +kernel) (by decide +kernel)) inzL (u_t5 53 (by decide +kernel) (by decide +kernel)) ⟨by decide +kernel, by decide +kernel, by decide +kernel⟩ (by decide)
theorem mhL_148 : MLH RL 148 mL_told hhL_told 3 := mlh_mk (u_t5 71 (by decide +kernel) (by decide +kernel)) (u_t5 72 (by decide +kernel) (by decide +kernel)) inzL (u_t5 73 (by decide +kernel) (by decide +kernel)) ⟨by decide +kernel, by decide +kernel, by decide +kernel⟩ (by decide)
theorem mhL_151 : MLH RL 151 mL_chair hhL_chair 4 := mlh_mk (u_t5 78 (by decide +kernel) (by decide +kernel)) (u_t5 79 (by decide +kernel) (by decide +kernel)) inzL (u_t5 80 (by decide +kernel) (by decide +kernel)) ⟨by decide +kernel, by decide +kernel, by decide +kernel⟩ (by decide)
theorem mhL_154 : MLH RL 154 mL_guest hhL_guest 4 := mlh_mk (u_t5 90 (by decide +kernel) (by decide +kernel)) (u_t5 91 (by decide +kernel) (by decide +kernel)) inzL (u_t5 92 (by decide +kernel) (by decide +kernel)) ⟨by decide +kernel, by decide +kernel, by decide +kernel⟩ (by decide)
theorem mhL_157 : MLH RL 157 mL_day hhL_day 3 := mlh_mk (u_t5 97 (by decide +kernel) (by decide +kernel)) (u_t5 98 (by decide +kernel) (by decide +kernel)) inzL (u_t5 99 (by decide +kernel) (by decide +kernel)) ⟨by decide +kernel, by decide +kernel, by decide +kernel⟩ (by decide)
theorem mhL_160 : MLH RL 160 mL_did hhL_did 4 := mlh_mk (u_t5 104 (by decide +kernel) (by decide +kernel)) (u_t5 105 (by decide +kernel) (by decide +kernel)) inzL (u_t5 106 (by decide +kernel) (by decide +kernel)) ⟨by decide +kernel, by decide +kernel, by decide +kernel⟩ (by decide)
theorem mhL_163 : MLH RL 163 mL_towel hhL_towel 4 := mlh_mk (u_t5 111 (by decide +kernel) (by decide +kernel)) (u_t5 112 (by decide +kernel) (by decide +kernel)) inzL (u_t5 113 (by decide +kernel) (by decide +kernel)) ⟨by decide +kernel, by decide +kernel, by decide +kernel⟩ (by decide)
theorem mhL_166 : MLH RL 166 mL_lies hhL_lies 4 := mlh_mk (u_t5 118 (by decide +kernel) (by decide +kernel)) (u_t5 119 (by decide +kernel) (by decide +kernel)) inzL (u_t5 120 (by decide +kernel) (by decide +kernel)) ⟨by decide +kernel, by decide +kernel, by decide +kernel⟩ (by decide)
theorem mhL_169 : MLH RL 169 mL_waits hhL_waits 3 := mlh_mk (u_t5 125 (by decide +kernel) (by decide +kernel)) (u_t5 126 (by decide +kernel) (by decide +kernel)) inzL (u_t5 127 (by decide +kernel) (by decide +kernel)) ⟨by decide +kernel, by decide +kernel, by decide +kernel⟩ (by decide)
theorem mhL_172 : MLH RL 172 mL_sums hhL_sums 3 := mlh_mk (u_t5 132 (by decide +kernel) (by decide +kernel)) (u_t5 133 (by decide +kernel) (by decide +kernel)) inzL (u_t5 134 (by decide +kernel) (by decide +kernel)) ⟨by decide +kernel, by decide +kernel, by decide +kernel⟩ (by decide)
theorem mhL_175 : MLH RL 175 mL_worth hhL_worth 5 := mlh_mk (u_t5 154 (by decide +kernel) (by decide +kernel)) (u_t5 155 (by decide +kernel) (by decide +kernel)) inzL (u_t5 156 (by decide +kernel) (by decide +kernel)) ⟨by decide +kernel, by decide +kernel, by decide +kernel⟩ (by decide)
theorem mhL_179 : MLH RL 179 mL_would hhL_would 9 := mlh_mk (u_t5 162 (by decide +kernel) (by decide +kernel)) (u_t5 163 (by decide +kernel) (by decide +kernel)) inzL (u_t5 164 (by decide +kernel) (by decide +kernel)) ⟨by decide +kernel, by decide +kernel, by decide +kernel⟩ (by decide)
theorem mhL_183 : MLH RL 183 mL_round hhL_round 3 := mlh_mk (u_t5 173 (by decide +kernel) (by decide +kernel)) (u_t5 174 (by decide +kernel) (by decide +kernel)) inzL (u_t5 175 (by decide +kernel) (by decide +kernel)) ⟨by decide +kernel, by decide +kernel, by decide +kernel⟩ (by decide)
theorem mhL_186 : MLH RL 186 mL_out hhL_out 3 := mlh_mk (u_t5 180 (by decide +kernel) (by decide +kernel)) (u_t5 181 (by decide +kernel) (by decide +kernel)) inzL (u_t5 182 (by decide +kernel) (by decide +kernel)) ⟨by decide +kernel, by decide +kernel, by decide +kernel⟩ (by decide)
theorem mhL_189 : MLH RL 189 mL_had hhL_had 4 := mlh_mk (u_t5 191 (by decide +kernel) (by decide +kernel)) (u_t5 192 (by decide +kernel) (by decide +kernel)) inzL (u_t5 193 (by decide +kernel) (by decide +kernel)) ⟨by decide +kernel, by decide +kernel, by decide +kernel⟩ (by decide)
theorem mhL_192 : MLH RL 192 mL_still hhL_still 4 := mlh_mk (u_t5 198 (by decide +kernel) (by decide +kernel)) (u_t5 199 (by decide +kernel) (by decide +kernel)) inzL (u_t5 200 (by decide +kernel) (by decide +kernel)) ⟨by decide +kernel, by decide +kernel, by decide +kernel⟩ (by decide)
theorem mhL_195 : MLH RL 195 mL_net hhL_net 4 := mlh_mk (u_t6 44 (by decide +kernel) (by decide +kernel)) (u_t6 45 (by decide +kernel) (by decide +kernel)) inzL (u_t6 46 (by decide +kernel) (by decide +kernel)) ⟨by decide +kernel, by decide +kernel, by decide +kernel⟩ (by decide)
theorem mhL_202 : MLH RL 202 mL_gets hhL_gets 3 := mlh_mk (u_t6 52 (by decide +kernel) (by decide +kernel)) (u_t6 53 (by decide +kernel) (by decide +kernel)) inzL (u_t6 54 (by decide +kernel) (by decide +kernel)) ⟨by decide +kernel, by decide +kernel, by decide +kernel⟩ (by decide)
theorem mhL_209 : MLH RL 209 mL_more hhL_more 4 := mlh_mk (u_t6 59 (by decide +kernel) (by decide +kernel)) (u_t6 60 (by decide +kernel) (by decide +kernel)) inzL (u_t6 61 (by decide +kernel) (by decide +kernel)) ⟨by decide +kernel, by decide +kernel, by decide +kernel⟩ (by decide)
theorem mhL_212 : MLH RL 212 mL_want hhL_want 3 := mlh_mk (u_t6 71 (by decide +kernel) (by decide +kernel)) (u_t6 72 (by decide +kernel) (by decide +kernel)) inzL (u_t6 73 (by decide +kernel) (by decide +kernel)) ⟨by decide +kernel, by decide +kernel, by decide +kernel⟩ (by decide)
theorem mhL_215 : MLH RL 215 mL_just hhL_just 3 := mlh_mk (u_t6 86 (by decide +kernel) (by decide +kernel)) (u_t6 87 (by decide +kernel) (by decide +kernel)) inzL (u_t6 88 (by decide +kernel) (by decide +kernel)) ⟨by decide +kernel, by decide +kernel, by decide +kernel⟩ (by decide)
theorem mhL_218 : MLH RL 218 mL_off hhL_off 3 := mlh_mk (u_t6 93 (by decide +kernel) (by decide +kernel)) (u_t6 94 (by decide +kernel) (by decide +kernel)) inzL (u_t6 95 (by decide +kernel) (by decide +kernel)) ⟨by decide +kernel, by decide +kernel, by decide +kernel⟩ (by decide)
theorem mhL_221 : MLH RL 221 mL_turnsOf hhL_turnsOf 3 := mlh_mk (u_t6 100 (by decide +kernel) (by decide +kernel)) (u_t6 101 (by decide +kernel) (by decide +kernel)) inzL (u_t6 102 (by decide +kernel) (by decide +kernel)) ⟨by decide +kernel, by decide +kernel, by decide +kernel⟩ (by decide)
theorem mhL_224 : MLH RL 224 mL_lot hhL_lot 4 := mlh_mk (u_t6 114 (by decide +kernel) (by decide +kernel)) (u_t6 115 (by decide +kernel) (by decide +kernel)) inzL (u_t6 116 (by decide +kernel) (by decide +kernel)) ⟨by decide +kernel, by decide +kernel, by decide +kernel⟩ (by decide)
theorem mhL_227 : MLH RL 227 mL_lucky hhL_lucky 5 := mlh_mk (u_t6 126 (by decide +kernel) (by decide +kernel)) (u_t6 127 (by decide +kernel) (by decide +kernel)) inzL (u_t6 128 (by decide +kernel) (by decide +kernel)) ⟨by decide +kernel, by decide +kernel, by decide +kernel⟩ (by decide)
theorem mhL_230 : MLH RL 230 mL_summer hhL_summer 5 := mlh_mk (u_t6 133 (by decide +kernel) (by decide +kernel)) (u_t6 134 (by decide +kernel) (by decide +kernel)) inzL (u_t6 135 (by decide +kernel) (by decide +kernel)) ⟨by decide +kernel, by decide +kernel, by decide +kernel⟩ (by decide)
theorem mhL_233 : MLH RL 233 mL_fits hhL_fits 3 := mlh_mk (u_t6 150 (by decide +kernel) (by decide +kernel)) (u_t6 151 (by decide +kernel) (by decide +kernel)) inzL (u_t6 152 (by decide +kernel) (by decide +kernel)) ⟨by decide +kernel, by decide +kernel, by decide +kernel⟩ (by decide)
theorem mhL_240 : MLH RL 240 mL_early hhL_early 3 := mlh_mk (u_t6 157 (by decide +kernel) (by decide +kernel)) (u_t6 158 (by decide +kernel) (by decide +kernel)) inzL (u_t6 159 (by decide +kernel) (by decide +kernel)) ⟨by decide +kernel, by decide +kernel, by decide +kernel⟩ (by decide)
theorem mhL_243 : MLH RL 243 mL_hotel hhL_hotel 4 := mlh_mk (u_t6 164 (by decide +kernel) (by decide +kernel)) (u_t6 165 (by decide +kernel) (by decide +kernel)) inzL (u_t6 166 (by decide +kernel) (by decide +kernel)) ⟨by decide +kernel, by decide +kernel, by decide +kernel⟩ (by decide)
theorem mhL_246 : MLH RL 246 mL_hire hhL_hire 3 := mlh_mk (u_t6 175 (by decide +kernel) (by decide +kernel)) (u_t6 176 (by decide +kernel) (by decide +kernel)) inzL (u_t6 177 (by decide +kernel) (by decide +kernel)) ⟨by decide +kernel, by decide +kernel, by decide +kernel⟩ (by decide)
theorem mhL_249 : MLH RL 249 mL_wakes hhL_wakes 4 := mlh_mk (u_t6 182 (by decide +kernel) (by decide +kernel)) (u_t6 183 (by decide +kernel) (by decide +kernel)) inzL (u_t6 184 (by decide +kernel) (by decide +kernel)) ⟨by decide +kernel, by decide +kernel, by decide +kernel⟩ (by decide)

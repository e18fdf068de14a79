def m00 : pMI := fun _ _ => 0
def l00 : pML := fun _ _ => 0
def g00 : pGG := (0, fun _ => (99, 0), fun _ _ => none)
theorem X_gml {Γ : pTG} {d k n : Nat} {M : pMD} {pc : Nat} {L : List (Nat × Value)} {S : List Value} {g : pGG} {mi : pMI} {ml : pML} {Q : pQ} {g' : pGG} {mi' : pMI} {ml' : pML} (h1 : g = g') (h2 : mi = mi') (h3 : ml = ml') (kk : XW Γ d k n M pc L S g' mi' ml' Q) : XW Γ d k n M pc L S g mi ml Q := by subst h1; subst h2; subst h3; exact kk
theorem X_topr {Γ : pTG} {d k n : Nat} {M : pMD} {pc : Nat} {L : List (Nat × Value)} {S : List Value} {g : pGG} {mi : pMI} {ml : pML} {Q : pQ} {a a' : Nat} (h : a = a') (kk : XW Γ d k n M pc L (.ref a' :: S) g mi ml Q) : XW Γ d k n M pc L (.ref a :: S) g mi ml Q := by rw [h]; exact kk
theorem acI : Cond.arrayClass .int ∈ uxW := (u_t1 62 (by decide +kernel) (by decide +kernel))
theorem acL : Cond.arrayClass .long ∈ uxW := (u_t2 39 (by decide +kernel) (by decide +kernel))
theorem acZ : Cond.arrayClass .boolean ∈ uxW := (u_t7 155 (by decide +kernel) (by decide +kernel))
theorem clX12_26 : Cond.classLink RX12 26 "[[I" ∈ uxW := (u_t6 195 (by decide +kernel) (by decide +kernel))
theorem oiX11 : OIW RX11 1 := by refine ⟨(u_t1 32 (by decide +kernel) (by decide +kernel)), ?_, ?_⟩ <;> exact uxW_all (ws := [_]) (by decide +kernel) _ List.mem_cons_self
theorem nwX11_13 : NWK RX11 13 10 := ⟨by decide, (u_t1 35 (by decide +kernel) (by decide +kernel)), (u_t1 36 (by decide +kernel) (by decide +kernel)), inz10⟩
theorem oiX10 : OIW RX10 3 := by refine ⟨(u_t1 40 (by decide +kernel) (by decide +kernel)), ?_, ?_⟩ <;> exact uxW_all (ws := [_]) (by decide +kernel) _ List.mem_cons_self
theorem miX11_15 : MLI RX11 15 mX10_init 1 ∨ MLJ RX11 15 mX10_init 1 := Or.inl ⟨rfl, rfl, (u_t1 37 (by decide +kernel) (by decide +kernel)), (u_t1 38 (by decide +kernel) (by decide +kernel)), inz10, (u_t1 39 (by decide +kernel) (by decide +kernel)), ⟨by decide +kernel, by decide +kernel, by decide +kernel⟩, by decide⟩
theorem nwX11_22 : NWK RX11 22 8 := ⟨by decide, (u_t1 63 (by decide +kernel) (by decide +kernel)), (u_t1 64 (by decide +kernel) (by decide +kernel)), inz8⟩
theorem oiX8 : OIW RX8 3 := by refine ⟨(u_t1 68 (by decide +kernel) (by decide +kernel)), ?_, ?_⟩ <;> exact uxW_all (ws := [_]) (by decide +kernel) _ List.mem_cons_self
theorem miX11_24 : MLI RX11 24 mX8_init 0 ∨ MLJ RX11 24 mX8_init 0 := Or.inr ⟨rfl, rfl, (by decide +kernel), (u_t1 66 (by decide +kernel) (by decide +kernel)), inz8, (u_t1 67 (by decide +kernel) (by decide +kernel)), ⟨by decide +kernel, by decide +kernel, by decide +kernel⟩, by decide⟩
theorem nwX11_32 : NWK RX11 32 6 := ⟨by decide, (u_t1 144 (by decide +kernel) (by decide +kernel)), (u_t1 145 (by decide +kernel) (by decide +kernel)), inz6⟩
theorem oiX6 : OIW RX6 3 := by refine ⟨(u_t1 149 (by decide +kernel) (by decide +kernel)), ?_, ?_⟩ <;> exact uxW_all (ws := [_]) (by decide +kernel) _ List.mem_cons_self
theorem miX11_34 : MLI RX11 34 mX6_init 0 ∨ MLJ RX11 34 mX6_init 0 := Or.inr ⟨rfl, rfl, (by decide +kernel), (u_t1 147 (by decide +kernel) (by decide +kernel)), inz6, (u_t1 148 (by decide +kernel) (by decide +kernel)), ⟨by decide +kernel, by decide +kernel, by decide +kernel⟩, by decide⟩
theorem nwX11_39 : NWK RX11 39 5 := ⟨by decide, (u_t1 170 (by decide +kernel) (by decide +kernel)), (u_t1 171 (by decide +kernel) (by decide +kernel)), inz5⟩
theorem oiX5 : OIW RX5 3 := by refine ⟨(u_t1 175 (by decide +kernel) (by decide +kernel)), ?_, ?_⟩ <;> exact uxW_all (ws := [_]) (by decide +kernel) _ List.mem_cons_self
theorem miX11_41 : MLI RX11 41 mX5_init 1 ∨ MLJ RX11 41 mX5_init 1 := Or.inl ⟨rfl, rfl, (u_t1 172 (by decide +kernel) (by decide +kernel)), (u_t1 173 (by decide +kernel) (by decide +kernel)), inz5, (u_t1 174 (by decide +kernel) (by decide +kernel)), ⟨by decide +kernel, by decide +kernel, by decide +kernel⟩, by decide⟩
theorem nwX11_48 : NWK RX11 48 0 := ⟨by decide, (u_t1 192 (by decide +kernel) (by decide +kernel)), (u_t1 193 (by decide +kernel) (by decide +kernel)), inz0⟩
theorem oiX0 : OIW RX0 3 := by refine ⟨(u_t1 197 (by decide +kernel) (by decide +kernel)), ?_, ?_⟩ <;> exact uxW_all (ws := [_]) (by decide +kernel) _ List.mem_cons_self
theorem miX11_50 : MLI RX11 50 mX0_init 0 ∨ MLJ RX11 50 mX0_init 0 := Or.inr ⟨rfl, rfl, (by decide +kernel), (u_t1 195 (by decide +kernel) (by decide +kernel)), inz0, (u_t1 196 (by decide +kernel) (by decide +kernel)), ⟨by decide +kernel, by decide +kernel, by decide +kernel⟩, by decide⟩
theorem nwX11_55 : NWK RX11 55 3 := ⟨by decide, (u_t1 209 (by decide +kernel) (by decide +kernel)), (u_t1 210 (by decide +kernel) (by decide +kernel)), inz3⟩
theorem oiX3 : OIW RX3 3 := by refine ⟨(u_t1 214 (by decide +kernel) (by decide +kernel)), ?_, ?_⟩ <;> exact uxW_all (ws := [_]) (by decide +kernel) _ List.mem_cons_self
theorem nwX3_33 : NWK RX3 33 2 := ⟨by decide, (u_t1 215 (by decide +kernel) (by decide +kernel)), (u_t1 216 (by decide +kernel) (by decide +kernel)), inz2⟩
theorem oiX2 : OIW RX2 3 := by refine ⟨(u_t1 220 (by decide +kernel) (by decide +kernel)), ?_, ?_⟩ <;> exact uxW_all (ws := [_]) (by decide +kernel) _ List.mem_cons_self
theorem miX3_35 : MLI RX3 35 mX2_init 2 ∨ MLJ RX3 35 mX2_init 2 := Or.inl ⟨rfl, rfl, (u_t1 217 (by decide +kernel) (by decide +kernel)), (u_t1 218 (by decide +kernel) (by decide +kernel)), inz2, (u_t1 219 (by decide +kernel) (by decide +kernel)), ⟨by decide +kernel, by decide +kernel, by decide +kernel⟩, by decide⟩
theorem miX11_57 : MLI RX11 57 mX3_init 2 ∨ MLJ RX11 57 mX3_init 2 := Or.inl ⟨rfl, rfl, (u_t1 211 (by decide +kernel) (by decide +kernel)), (u_t1 212 (by decide +kernel) (by decide +kernel)), inz3, (u_t1 213 (by decide +kernel) (by decide +kernel)), ⟨by decide +kernel, by decide +kernel, by decide +kernel⟩, by decide⟩
theorem nwX11_67 : NWK RX11 67 2 := ⟨by decide, (u_t2 74 (by decide +kernel) (by decide +kernel)), (u_t1 216 (by decide +kernel) (by decide +kernel)), inz2⟩
theorem miX11_69 : MLI RX11 69 mX2_init 2 ∨ MLJ RX11 69 mX2_init 2 := Or.inl ⟨rfl, rfl, (u_t2 75 (by decide +kernel) (by decide +kernel)), (u_t1 218 (by decide +kernel) (by decide +kernel)), inz2, (u_t1 219 (by decide +kernel) (by decide +kernel)), ⟨by decide +kernel, by decide +kernel, by decide +kernel⟩, by decide⟩
theorem nwX11_79 : NWK RX11 79 4 := ⟨by decide, (u_t2 76 (by decide +kernel) (by decide +kernel)), (u_t2 77 (by decide +kernel) (by decide +kernel)), inz4⟩
theorem oiX4 : OIW RX4 3 := by refine ⟨(u_t2 81 (by decide +kernel) (by decide +kernel)), ?_, ?_⟩ <;> exact uxW_all (ws := [_]) (by decide +kernel) _ List.mem_cons_self
theorem miX11_81 : MLI RX11 81 mX4_init 1 ∨ MLJ RX11 81 mX4_init 1 := Or.inl ⟨rfl, rfl, (u_t2 78 (by decide +kernel) (by decide +kernel)), (u_t2 79 (by decide +kernel) (by decide +kernel)), inz4, (u_t2 80 (by decide +kernel) (by decide +kernel)), ⟨by decide +kernel, by decide +kernel, by decide +kernel⟩, by decide⟩
theorem nwX11_88 : NWK RX11 88 1 := ⟨by decide, (u_t2 103 (by decide +kernel) (by decide +kernel)), (u_t2 104 (by decide +kernel) (by decide +kernel)), inz1⟩
theorem oiX1 : OIW RX1 3 := by refine ⟨(u_t2 108 (by decide +kernel) (by decide +kernel)), ?_, ?_⟩ <;> exact uxW_all (ws := [_]) (by decide +kernel) _ List.mem_cons_self
theorem clX1_15 : Cond.classLink RX1 15 "PoolTowels$Image" ∈ uxW := (u_t2 109 (by decide +kernel) (by decide +kernel))
theorem miX11_90 : MLI RX11 90 mX1_init 0 ∨ MLJ RX11 90 mX1_init 0 := Or.inr ⟨rfl, rfl, (by decide +kernel), (u_t2 106 (by decide +kernel) (by decide +kernel)), inz1, (u_t2 107 (by decide +kernel) (by decide +kernel)), ⟨by decide +kernel, by decide +kernel, by decide +kernel⟩, by decide⟩
theorem oiX12 : OIW RX12 1 := by refine ⟨(u_t6 194 (by decide +kernel) (by decide +kernel)), ?_, ?_⟩ <;> exact uxW_all (ws := [_]) (by decide +kernel) _ List.mem_cons_self
theorem nwL_8 : NWK RL 8 11 := ⟨by decide, (u_t1 27 (by decide +kernel) (by decide +kernel)), (u_t1 28 (by decide +kernel) (by decide +kernel)), inz11⟩
theorem nwL_119 : NWK RL 119 12 := ⟨by decide, (u_t6 189 (by decide +kernel) (by decide +kernel)), (u_t6 190 (by decide +kernel) (by decide +kernel)), inz12⟩
theorem nwX11_282 : NWK RX11 282 9 := ⟨by decide, (u_t5 226 (by decide +kernel) (by decide +kernel)), (u_t5 227 (by decide +kernel) (by decide +kernel)), inz9⟩
theorem nwX1_15 : NWK RX1 15 7 := ⟨by decide, (u_t2 109 (by decide +kernel) (by decide +kernel)), (u_t3 178 (by decide +kernel) (by decide +kernel)), inz7⟩
theorem miL_118 : MLI RL 118 mX11_init 0 ∨ MLJ RL 118 mX11_init 0 := Or.inl ⟨rfl, rfl, (u_t1 29 (by decide +kernel) (by decide +kernel)), (u_t1 30 (by decide +kernel) (by decide +kernel)), inz11, (u_t1 31 (by decide +kernel) (by decide +kernel)), ⟨by decide +kernel, by decide +kernel, by decide +kernel⟩, by decide⟩
theorem miL_121 : MLI RL 121 mX12_init 0 ∨ MLJ RL 121 mX12_init 0 := Or.inl ⟨rfl, rfl, (u_t6 191 (by decide +kernel) (by decide +kernel)), (u_t6 192 (by decide +kernel) (by decide +kernel)), inz12, (u_t6 193 (by decide +kernel) (by decide +kernel)), ⟨by decide +kernel, by decide +kernel, by decide +kernel⟩, by decide⟩
theorem miX11_284 : MLI RX11 284 mX9_init 2 ∨ MLJ RX11 284 mX9_init 2 := Or.inl ⟨rfl, rfl, (u_t5 228 (by decide +kernel) (by decide +kernel)), (u_t5 229 (by decide +kernel) (by decide +kernel)), inz9, (u_t5 230 (by decide +kernel) (by decide +kernel)), ⟨by decide +kernel, by decide +kernel, by decide +kernel⟩, by decide⟩
theorem miX1_42 : MLI RX1 42 mX7_init 0 ∨ MLJ RX1 42 mX7_init 0 := Or.inr ⟨rfl, rfl, (by decide +kernel), (u_t3 180 (by decide +kernel) (by decide +kernel)), inz7, (u_t3 181 (by decide +kernel) (by decide +kernel)), ⟨by decide +kernel, by decide +kernel, by decide +kernel⟩, by decide⟩
theorem oiX9 : OIW RX9 3 := by refine ⟨(u_t5 231 (by decide +kernel) (by decide +kernel)), ?_, ?_⟩ <;> exact uxW_all (ws := [_]) (by decide +kernel) _ List.mem_cons_self
theorem oiX7 : OIW RX7 3 := by refine ⟨(u_t3 182 (by decide +kernel) (by decide +kernel)), ?_, ?_⟩ <;> exact uxW_all (ws := [_]) (by decide +kernel) _ List.mem_cons_self

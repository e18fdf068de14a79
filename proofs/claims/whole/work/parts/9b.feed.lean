/-! ===== feed ===== -/
def byB (v : Int32) (j : Nat) : Int32 := (v >>> (nI (24 - 8 * j) &&& 31)) &&& nI 255
theorem byB_u (v : Int32) {n : Nat} (hn : n ≤ 24) : (v.toUInt32 >>> ((nI n).toUInt32 &&& Int32.toUInt32 31)).toInt32 &&& nI 255 = (v >>> (nI n &&& 31)) &&& nI 255 := by
  refine b_ext (fun i hi => ?_)
  rw [b_and, b_and, b_ushr n (by omega), b_sshr n (by omega) v hi]
  rw [show bt (nI 255) i = decide (i < 8) from b_255 i]
  by_cases h : i < 8
  · rw [if_pos (by omega)]
  · rw [decide_eq_false h, Bool.and_false, Bool.and_false]
theorem byB_n (v : Int32) (j : Nat) : ¬ byB v j = -1 := fun h => by
  have h1 := b_m1 8 (by omega)
  rw [← h] at h1
  unfold byB at h1
  rw [b_and, show bt (nI 255) 8 = decide (8 < 8) from b_255 8] at h1
  simp at h1
def bqV (a b c d e : Int32) (q : Nat) : Int32 := byB (if q < 4 then a else if q < 8 then b else if q < 12 then c else if q < 16 then d else e) (q % 4)
def pbW (m : pMI) (s : Nat) (v : Int32) : pMI := fun i j => if i = 1 ∧ s ≤ j ∧ j < s + 4 then byB v (j - s) else if i = 0 ∧ j = 17 then nI (s + 4) else m i j
theorem pbW_17 {m : pMI} {s : Nat} {v : Int32} : pbW m s v 0 17 = nI (s + 4) := by unfold pbW; rw [if_neg (by omega), if_pos ⟨rfl, rfl⟩]
theorem pbW_1 {m : pMI} {s j : Nat} {v : Int32} : pbW m s v 1 j = if s ≤ j ∧ j < s + 4 then byB v (j - s) else m 1 j := by
  unfold pbW
  by_cases h : s ≤ j ∧ j < s + 4
  · rw [if_pos ⟨rfl, h⟩, if_pos h]
  · rw [if_neg (fun q => h q.2), if_neg (by omega), if_neg h]
theorem pbW_e {m : pMI} {s : Nat} {v : Int32} (h : m 0 17 = nI s) : up2 (up2 (up2 (up2 (up2 (up2 (up2 (up2 m 1 s (byB v 0)) 0 17 (nI (s + 1))) 1 (s + 1) (byB v 1)) 0 17 (nI (s + 1 + 1))) 1 (s + 1 + 1) (byB v 2)) 0 17 (nI (s + 1 + 1 + 1))) 1 (s + 1 + 1 + 1) (byB v 3)) 0 17 (nI (s + 1 + 1 + 1 + 1)) = pbW m s v := by
  funext i j
  by_cases h1 : i = 1
  · subst h1
    rw [pbW_1]
    by_cases a3 : j = s + 1 + 1 + 1
    · subst a3; rw [if_pos (by omega), show s + 1 + 1 + 1 - s = 3 by omega, up2_row (by omega)]; exact up2_s
    · by_cases a2 : j = s + 1 + 1
      · subst a2; rw [if_pos (by omega), show s + 1 + 1 - s = 2 by omega, up2_row (by omega), up2_n a3, up2_row (by omega)]; exact up2_s
      · by_cases a1 : j = s + 1
        · subst a1; rw [if_pos (by omega), show s + 1 - s = 1 by omega, up2_row (by omega), up2_n a3, up2_row (by omega), up2_n a2, up2_row (by omega)]; exact up2_s
        · by_cases a0 : j = s
          · subst a0; rw [if_pos (by omega), Nat.sub_self, up2_row (by omega), up2_n a3, up2_row (by omega), up2_n a2, up2_row (by omega), up2_n a1, up2_row (by omega)]; exact up2_s
          · rw [if_neg (by omega), up2_row (by omega), up2_n a3, up2_row (by omega), up2_n a2, up2_row (by omega), up2_n a1, up2_row (by omega), up2_n a0]
  · by_cases h2 : i = 0 ∧ j = 17
    · obtain ⟨rfl, rfl⟩ := h2
      rw [pbW_17]; exact up2_s
    · rw [up2_nn h2, up2_nn (fun q => h1 q.1), up2_nn h2, up2_nn (fun q => h1 q.1), up2_nn h2, up2_nn (fun q => h1 q.1), up2_nn h2, up2_nn (fun q => h1 q.1)]
      show m i j = if i = 1 ∧ s ≤ j ∧ j < s + 4 then byB v (j - s) else if i = 0 ∧ j = 17 then nI (s + 4) else m i j
      rw [if_neg (fun q => h1 q.1), if_neg h2]
set_option maxRecDepth 100000 in
set_option maxHeartbeats 4000000 in
theorem c_putBytes (Γ : pTG) (g : pGG) (mi : pMI) (ml : pML) (hSh : Sh g) (s : Nat) (hs : mi 0 17 = nI s) (h6 : s + 4 ≤ 600) (v : Int32) : cV Γ 1 mX11_putBytes [.ref 0, .int v] g mi ml (pbW mi s v) ml := by
  refine cV_of (by decide +kernel) (Nat.le_of_ble_eq_true rfl) ?_
  refine X_bipush (v := nI 24) dX11_putBytes_0 (by decide) ?_
  refine X_istore_n dX11_putBytes_2 (by decide) ?_
  refine X_iload_n dX11_putBytes_3 rfl ?_
  refine X_if_ltN (a := 24) 39 dX11_putBytes_4 (by decide) (by omega) (fun h_1 => ?_) (fun h_1 => ?_)
  · exact h_1.elim
  · refine X_aload_n dX11_putBytes_7 rfl ?_
    refine X_getr (a := 1) dX11_putBytes_8 fkX11_9 rfl (k_0 hSh) (r_0_0 hSh) ?_
    refine X_aload_n dX11_putBytes_11 rfl ?_
    refine X_geti dX11_putBytes_12 fkX11_108 rfl (k_0 hSh) ?_
    rw [hs]
    refine X_iload_n dX11_putBytes_15 rfl ?_
    refine X_iload_n dX11_putBytes_16 rfl ?_
    refine X_iushr dX11_putBytes_17 ?_
    refine X_sipush (v := nI 255) dX11_putBytes_18 (by decide) ?_
    refine X_iand dX11_putBytes_21 ?_
    refine X_topi (show ((v.toUInt32 >>> ((nI 24).toUInt32 &&& Int32.toUInt32 31)).toInt32) &&& (nI 255) = byB v 0 from byB_u v (n := 24) (by decide)) ?_
    refine X_iast s dX11_putBytes_22 (k_1 hSh) rfl (by omega) ?_
    refine X_aload_n dX11_putBytes_23 rfl ?_
    refine X_dup dX11_putBytes_24 rfl ?_
    refine X_geti dX11_putBytes_25 fkX11_108 rfl (k_0 hSh) ?_
    refine X_topi (show (up2 mi 1 s (byB v 0)) 0 17 = nI s by rw [up2_row (by omega)]; exact hs) ?_
    refine X_iconst (v := nI 1) dX11_putBytes_28 (by decide) ?_
    refine X_iadd dX11_putBytes_29 ?_
    refine X_topi (nI_add s 1) ?_
    refine X_puti dX11_putBytes_30 fkX11_108 rfl rfl (k_0 hSh) ?_
    refine X_iinc (v := nI 16) dX11_putBytes_33 rfl (by decide) (by decide) ?_
    refine X_goto 3 dX11_putBytes_36 (by decide) ?_
    refine X_iload_n dX11_putBytes_3 rfl ?_
    refine X_if_ltN (a := 16) 39 dX11_putBytes_4 (by decide) (by omega) (fun h_2 => ?_) (fun h_2 => ?_)
    · exact h_2.elim
    · refine X_aload_n dX11_putBytes_7 rfl ?_
      refine X_getr (a := 1) dX11_putBytes_8 fkX11_9 rfl (k_0 hSh) (r_0_0 hSh) ?_
      refine X_aload_n dX11_putBytes_11 rfl ?_
      refine X_geti dX11_putBytes_12 fkX11_108 rfl (k_0 hSh) ?_
      refine X_topi (show (up2 (up2 mi 1 s (byB v 0)) 0 17 (nI (s + 1))) 0 17 = nI (s + 1) by rw [up2_s]) ?_
      refine X_iload_n dX11_putBytes_15 rfl ?_
      refine X_iload_n dX11_putBytes_16 rfl ?_
      refine X_iushr dX11_putBytes_17 ?_
      refine X_sipush (v := nI 255) dX11_putBytes_18 (by decide) ?_
      refine X_iand dX11_putBytes_21 ?_
      refine X_topi (show ((v.toUInt32 >>> ((nI 16).toUInt32 &&& Int32.toUInt32 31)).toInt32) &&& (nI 255) = byB v 1 from byB_u v (n := 16) (by decide)) ?_
      refine X_iast (s + 1) dX11_putBytes_22 (k_1 hSh) rfl (by omega) ?_
      refine X_aload_n dX11_putBytes_23 rfl ?_
      refine X_dup dX11_putBytes_24 rfl ?_
      refine X_geti dX11_putBytes_25 fkX11_108 rfl (k_0 hSh) ?_
      refine X_topi (show (up2 (up2 (up2 mi 1 s (byB v 0)) 0 17 (nI (s + 1))) 1 (s + 1) (byB v 1)) 0 17 = nI (s + 1) by rw [up2_row (by omega), up2_s]) ?_
      refine X_iconst (v := nI 1) dX11_putBytes_28 (by decide) ?_
      refine X_iadd dX11_putBytes_29 ?_
      refine X_topi (nI_add (s + 1) 1) ?_
      refine X_puti dX11_putBytes_30 fkX11_108 rfl rfl (k_0 hSh) ?_
      refine X_iinc (v := nI 8) dX11_putBytes_33 rfl (by decide) (by decide) ?_
      refine X_goto 3 dX11_putBytes_36 (by decide) ?_
      refine X_iload_n dX11_putBytes_3 rfl ?_
      refine X_if_ltN (a := 8) 39 dX11_putBytes_4 (by decide) (by omega) (fun h_3 => ?_) (fun h_3 => ?_)
      · exact h_3.elim
      · refine X_aload_n dX11_putBytes_7 rfl ?_
        refine X_getr (a := 1) dX11_putBytes_8 fkX11_9 rfl (k_0 hSh) (r_0_0 hSh) ?_
        refine X_aload_n dX11_putBytes_11 rfl ?_
        refine X_geti dX11_putBytes_12 fkX11_108 rfl (k_0 hSh) ?_
        refine X_topi (show (up2 (up2 (up2 (up2 mi 1 s (byB v 0)) 0 17 (nI (s + 1))) 1 (s + 1) (byB v 1)) 0 17 (nI ((s + 1) + 1))) 0 17 = nI ((s + 1) + 1) by rw [up2_s]) ?_
        refine X_iload_n dX11_putBytes_15 rfl ?_
        refine X_iload_n dX11_putBytes_16 rfl ?_
        refine X_iushr dX11_putBytes_17 ?_
        refine X_sipush (v := nI 255) dX11_putBytes_18 (by decide) ?_
        refine X_iand dX11_putBytes_21 ?_
        refine X_topi (show ((v.toUInt32 >>> ((nI 8).toUInt32 &&& Int32.toUInt32 31)).toInt32) &&& (nI 255) = byB v 2 from byB_u v (n := 8) (by decide)) ?_
        refine X_iast ((s + 1) + 1) dX11_putBytes_22 (k_1 hSh) rfl (by omega) ?_
        refine X_aload_n dX11_putBytes_23 rfl ?_
        refine X_dup dX11_putBytes_24 rfl ?_
        refine X_geti dX11_putBytes_25 fkX11_108 rfl (k_0 hSh) ?_
        refine X_topi (show (up2 (up2 (up2 (up2 (up2 mi 1 s (byB v 0)) 0 17 (nI (s + 1))) 1 (s + 1) (byB v 1)) 0 17 (nI ((s + 1) + 1))) 1 ((s + 1) + 1) (byB v 2)) 0 17 = nI ((s + 1) + 1) by rw [up2_row (by omega), up2_s]) ?_
        refine X_iconst (v := nI 1) dX11_putBytes_28 (by decide) ?_
        refine X_iadd dX11_putBytes_29 ?_
        refine X_topi (nI_add ((s + 1) + 1) 1) ?_
        refine X_puti dX11_putBytes_30 fkX11_108 rfl rfl (k_0 hSh) ?_
        refine X_iinc (v := nI 0) dX11_putBytes_33 rfl (by decide) (by decide) ?_
        refine X_goto 3 dX11_putBytes_36 (by decide) ?_
        refine X_iload_n dX11_putBytes_3 rfl ?_
        refine X_if_ltN (a := 0) 39 dX11_putBytes_4 (by decide) (by omega) (fun h_4 => ?_) (fun h_4 => ?_)
        · exact h_4.elim
        · refine X_aload_n dX11_putBytes_7 rfl ?_
          refine X_getr (a := 1) dX11_putBytes_8 fkX11_9 rfl (k_0 hSh) (r_0_0 hSh) ?_
          refine X_aload_n dX11_putBytes_11 rfl ?_
          refine X_geti dX11_putBytes_12 fkX11_108 rfl (k_0 hSh) ?_
          refine X_topi (show (up2 (up2 (up2 (up2 (up2 (up2 mi 1 s (byB v 0)) 0 17 (nI (s + 1))) 1 (s + 1) (byB v 1)) 0 17 (nI ((s + 1) + 1))) 1 ((s + 1) + 1) (byB v 2)) 0 17 (nI (((s + 1) + 1) + 1))) 0 17 = nI (((s + 1) + 1) + 1) by rw [up2_s]) ?_
          refine X_iload_n dX11_putBytes_15 rfl ?_
          refine X_iload_n dX11_putBytes_16 rfl ?_
          refine X_iushr dX11_putBytes_17 ?_
          refine X_sipush (v := nI 255) dX11_putBytes_18 (by decide) ?_
          refine X_iand dX11_putBytes_21 ?_
          refine X_topi (show ((v.toUInt32 >>> ((nI 0).toUInt32 &&& Int32.toUInt32 31)).toInt32) &&& (nI 255) = byB v 3 from byB_u v (n := 0) (by decide)) ?_
          refine X_iast (((s + 1) + 1) + 1) dX11_putBytes_22 (k_1 hSh) rfl (by omega) ?_
          refine X_aload_n dX11_putBytes_23 rfl ?_
          refine X_dup dX11_putBytes_24 rfl ?_
          refine X_geti dX11_putBytes_25 fkX11_108 rfl (k_0 hSh) ?_
          refine X_topi (show (up2 (up2 (up2 (up2 (up2 (up2 (up2 mi 1 s (byB v 0)) 0 17 (nI (s + 1))) 1 (s + 1) (byB v 1)) 0 17 (nI ((s + 1) + 1))) 1 ((s + 1) + 1) (byB v 2)) 0 17 (nI (((s + 1) + 1) + 1))) 1 (((s + 1) + 1) + 1) (byB v 3)) 0 17 = nI (((s + 1) + 1) + 1) by rw [up2_row (by omega), up2_s]) ?_
          refine X_iconst (v := nI 1) dX11_putBytes_28 (by decide) ?_
          refine X_iadd dX11_putBytes_29 ?_
          refine X_topi (nI_add (((s + 1) + 1) + 1) 1) ?_
          refine X_puti dX11_putBytes_30 fkX11_108 rfl rfl (k_0 hSh) ?_
          refine X_iinc (v := -8) dX11_putBytes_33 rfl (by decide) (by decide) ?_
          refine X_goto 3 dX11_putBytes_36 (by decide) ?_
          refine X_iload_n dX11_putBytes_3 rfl ?_
          refine X_if_lt 39 dX11_putBytes_4 (by decide) (fun h_5 => ?_) (fun h_5 => ?_)
          · exact X_vret dX11_putBytes_39 rfl ⟨rfl, rfl, pbW_e hs, rfl⟩
          · exact absurd (by decide) h_5
def fdA (A : AS) (a b c d e : Int32) : AS := (A.1, A.2.1, A.2.2.1, A.2.2.2.1, A.2.2.2.2.1, A.2.2.2.2.2.1, A.2.2.2.2.2.2.1, (aTn A + 20, fun k => if k < aTn A then aT A k else bqV a b c d e (k - aTn A)), A.2.2.2.2.2.2.2.2.1, A.2.2.2.2.2.2.2.2.2)
theorem ok_fd {A : AS} {a b c d e : Int32} (h : okAS A) (h6 : aTn A + 20 ≤ 600) : okAS (fdA A a b c d e) := by
  obtain ⟨h1, h2, h3, h4, h5, h6', h7, h8, h9, h10, h11⟩ := h
  refine ⟨h1, h2, h3, h4, h5, h6', h7, h8, h9, h6, fun k hk => ?_⟩
  show ¬ (if k < aTn A then aT A k else bqV a b c d e (k - aTn A)) = -1
  by_cases q : k < aTn A
  · rw [if_pos q]; exact h11 k q
  · rw [if_neg q]; exact byB_n _ _
def fdW (m : pMI) (s : Nat) (a b c d e : Int32) : pMI := pbW (pbW (pbW (pbW (pbW m s a) (s + 4) b) (s + 4 + 4) c) (s + 4 + 4 + 4) d) (s + 4 + 4 + 4 + 4) e
theorem pbW_r {m : pMI} {s i : Nat} {v : Int32} (h0 : i ≠ 0) (h1 : i ≠ 1) : pbW m s v i = m i := by
  funext j; unfold pbW; rw [if_neg (fun q => h1 q.1), if_neg (fun q => h0 q.1)]
theorem pbW_0 {m : pMI} {s j : Nat} {v : Int32} (h : j ≠ 17) : pbW m s v 0 j = m 0 j := by unfold pbW; rw [if_neg (by omega), if_neg (by omega)]
theorem fdW_1 {m : pMI} {s : Nat} {a b c d e : Int32} : ∀ k, k < s + 20 → fdW m s a b c d e 1 k = if k < s then m 1 k else bqV a b c d e (k - s) := fun k hk => by
  unfold fdW bqV
  rw [pbW_1, pbW_1, pbW_1, pbW_1, pbW_1]
  by_cases h0 : k < s
  · rw [if_pos h0, if_neg (by omega), if_neg (by omega), if_neg (by omega), if_neg (by omega), if_neg (by omega)]
  · rw [if_neg h0]
    by_cases h1 : k < s + 4
    · rw [if_neg (by omega), if_neg (by omega), if_neg (by omega), if_neg (by omega), if_pos (by omega), if_pos (by omega), show k - s = (k - s) % 4 by omega]
      congr 1; omega
    · by_cases h2 : k < s + 8
      · rw [if_neg (by omega), if_neg (by omega), if_neg (by omega), if_pos (by omega), if_neg (by omega), if_pos (by omega)]
        congr 1; omega
      · by_cases h3 : k < s + 12
        · rw [if_neg (by omega), if_neg (by omega), if_pos (by omega), if_neg (by omega), if_neg (by omega), if_pos (by omega)]
          congr 1; omega
        · by_cases h4 : k < s + 16
          · rw [if_neg (by omega), if_pos (by omega), if_neg (by omega), if_neg (by omega), if_neg (by omega), if_pos (by omega)]
            congr 1; omega
          · rw [if_pos (by omega), if_neg (by omega), if_neg (by omega), if_neg (by omega), if_neg (by omega)]
            congr 1; omega
theorem CI_fd {A : AS} {g : pGG} {m : pMI} {l : pML} {a b c d e : Int32} (h : CI A g m l) : CI (fdA A a b c d e) g (fdW m (aTn A) a b c d e) l := by
  obtain ⟨r, im, st, qi, si, c1, c2, c3, c4, c5, c6, c7, c8, c9, c10, c11, c12, c13⟩ := h
  have e9 : ∀ i, i ≠ 0 → i ≠ 1 → fdW m (aTn A) a b c d e i = m i := fun i h0 h1 => by unfold fdW; rw [pbW_r h0 h1, pbW_r h0 h1, pbW_r h0 h1, pbW_r h0 h1, pbW_r h0 h1]
  have e0 : ∀ j, j ≠ 17 → fdW m (aTn A) a b c d e 0 j = m 0 j := fun j hj => by unfold fdW; rw [pbW_0 hj, pbW_0 hj, pbW_0 hj, pbW_0 hj, pbW_0 hj]
  refine ⟨r, im, st, qi, si, c1, DOK_row c2 (fun i hi => e9 i (by omega) (by omega)) (by rw [e9 17 (by omega) (by omega)]) rfl, ?_, ?_, ?_, ?_, ?_, ?_, ?_, ?_, ?_, c12, ?_⟩
  · rw [e9 24 (by omega) (by omega), e9 25 (by omega) (by omega)]; exact c3
  · rw [e0 18 (by omega)]; exact c4
  · rw [e9 81 (by omega) (by omega)]; exact ⟨c5.1, chR_row c5.2 (e9 82 (by omega) (by omega))⟩
  · rw [e9 81 (by omega) (by omega)]
    refine ⟨c6.1, c6.2.1, fun k hk => ?_⟩
    have := (c12.2.2.2.2.2.1 k (Nat.lt_of_lt_of_le hk c6.2.1)).2.2.1
    exact imC_row (c6.2.2 k hk) (e9 _ (by omega) (by omega)) (e9 _ (by omega) (by omega)) (e9 _ (by omega) (by omega))
  · refine ⟨pbW_17, fun k hk => ?_⟩
    rw [fdW_1 k hk]
    show _ = if k < aTn A then aT A k else bqV a b c d e (k - aTn A)
    by_cases q : k < aTn A
    · rw [if_pos q, if_pos q]; exact c7.2 k q
    · rw [if_neg q, if_neg q]
  · rw [e9 2 (by omega) (by omega), e9 86 (by omega) (by omega)]; exact c8
  · rw [e0 19 (by omega)]
    rcases c9 with q | ⟨q1, q2⟩
    · exact Or.inl q
    · exact Or.inr ⟨q1, cdy_row (e9 58 (by omega) (by omega)) (e9 59 (by omega) (by omega)) (by rw [e9 57 (by omega) (by omega)]) (e9 65 (by omega) (by omega)) (e9 66 (by omega) (by omega)) q2⟩
  · rw [e9 57 (by omega) (by omega), e9 63 (by omega) (by omega), e9 67 (by omega) (by omega), e9 43 (by omega) (by omega), e9 47 (by omega) (by omega), e9 53 (by omega) (by omega)]; exact c10
  · rw [e9 77 (by omega) (by omega)]
    rcases c11 with q | ⟨q1, q2⟩
    · exact Or.inl q
    · exact Or.inr ⟨q1, GOK_row q2 (by rw [e9 77 (by omega) (by omega)]) (e9 78 (by omega) (by omega)) (e9 80 (by omega) (by omega))⟩
  · intro hst
    have := (c12.2.2.2.2.2.2.2.2 hst).2.2.1
    rw [e9 si (by omega) (by omega)]
    exact c13 hst
set_option maxRecDepth 100000 in
set_option maxHeartbeats 4000000 in
theorem k_feed (Γ : pTG) (g : pGG) (mi : pMI) (ml : pML) (A : AS) (hA : okAS A) (hC : CI A g mi ml) (xa : Int32) (xb : Int32) (xc : Int32) (xd : Int32) (xe : Int32) (h6 : aTn A + 20 ≤ 600) : CT Γ 60 20 5000 mX11_feed [.ref 0, .int xa, .int xb, .int xc, .int xd, .int xe] g mi ml (CQ (fdA A xa xb xc xd xe) (.inl (nI (aTn A + 20))) mi ml) := by
  refine CT_of (by decide +kernel) (Nat.le_of_ble_eq_true rfl) ?_
  have hSh := CI_Sh hC
  have hcl := CI_cl hC
  have hP := hA.1
  have hG8 : aG A ≤ 8 := hP.2.1
  have hC8 : (aP A).1 ≤ 8 := hP.1
  refine X_aload_n dX11_feed_0 rfl ?_
  refine X_geti dX11_feed_1 fkX11_108 rfl (k_0 hSh) ?_
  rw [(CI_k hC).2.2.2.2.1.1]
  refine X_bipush (v := nI 20) dX11_feed_4 (by decide) ?_
  refine X_iadd dX11_feed_6 ?_
  refine X_topi (nI_add (aTn A) 20) ?_
  refine X_sipush (v := nI 600) dX11_feed_7 (by decide) ?_
  refine X_icmp_leN (a := (aTn A) + 20) (b := 600) 15 dX11_feed_10 (by decide) (by omega) (by omega) (fun h_1 => ?_) (fun h_1 => ?_)
  · refine X_aload_n dX11_feed_15 rfl ?_
    refine X_iload_n dX11_feed_16 rfl ?_
    refine X_callVV dX11_feed_17 mkX11_112 (k_0 hSh) (c_putBytes Γ g mi ml hSh (aTn A) (CI_k hC).2.2.2.2.1.1 (by omega) xa) rfl rfl (by decide) (Nat.le_of_ble_eq_true rfl) ?_
    refine X_aload_n dX11_feed_20 rfl ?_
    refine X_iload_n dX11_feed_21 rfl ?_
    refine X_callVV dX11_feed_22 mkX11_112 (k_0 hSh) (c_putBytes Γ g (pbW mi (aTn A) xa) ml hSh (aTn A + 4) pbW_17 (by omega) xb) rfl rfl (by decide) (Nat.le_of_ble_eq_true rfl) ?_
    refine X_aload_n dX11_feed_25 rfl ?_
    refine X_iload_n dX11_feed_26 rfl ?_
    refine X_callVV dX11_feed_27 mkX11_112 (k_0 hSh) (c_putBytes Γ g (pbW (pbW mi (aTn A) xa) (aTn A + 4) xb) ml hSh (aTn A + 4 + 4) pbW_17 (by omega) xc) rfl rfl (by decide) (Nat.le_of_ble_eq_true rfl) ?_
    refine X_aload_n dX11_feed_30 rfl ?_
    refine X_iload dX11_feed_31 rfl ?_
    refine X_callVV dX11_feed_33 mkX11_112 (k_0 hSh) (c_putBytes Γ g (pbW (pbW (pbW mi (aTn A) xa) (aTn A + 4) xb) (aTn A + 4 + 4) xc) ml hSh (aTn A + 4 + 4 + 4) pbW_17 (by omega) xd) rfl rfl (by decide) (Nat.le_of_ble_eq_true rfl) ?_
    refine X_aload_n dX11_feed_36 rfl ?_
    refine X_iload dX11_feed_37 rfl ?_
    refine X_callVV dX11_feed_39 mkX11_112 (k_0 hSh) (c_putBytes Γ g (pbW (pbW (pbW (pbW mi (aTn A) xa) (aTn A + 4) xb) (aTn A + 4 + 4) xc) (aTn A + 4 + 4 + 4) xd) ml hSh (aTn A + 4 + 4 + 4 + 4) pbW_17 (by omega) xe) rfl rfl (by decide) (Nat.le_of_ble_eq_true rfl) ?_
    refine X_aload_n dX11_feed_42 rfl ?_
    refine X_geti dX11_feed_43 fkX11_108 rfl (k_0 hSh) ?_
    exact X_iret dX11_feed_46 rfl ⟨congrArg (fun z => Sum.inl (some (Value.int z))) (pbW_17), CI_fd hC, fun i h1 h2 => by rw [pbW_r (by omega) (by omega), pbW_r (by omega) (by omega), pbW_r (by omega) (by omega), pbW_r (by omega) (by omega), pbW_r (by omega) (by omega)], rfl⟩
  · exact absurd h_1 (by omega)
set_option maxRecDepth 100000 in
set_option maxHeartbeats 4000000 in
theorem k_feed_n (Γ : pTG) (g : pGG) (mi : pMI) (ml : pML) (A : AS) (hA : okAS A) (hC : CI A g mi ml) (xa : Int32) (xb : Int32) (xc : Int32) (xd : Int32) (xe : Int32) (h6 : ¬ aTn A + 20 ≤ 600) : CT Γ 60 20 5000 mX11_feed [.ref 0, .int xa, .int xb, .int xc, .int xd, .int xe] g mi ml (CQ A (.inl (-1)) mi ml) := by
  refine CT_of (by decide +kernel) (Nat.le_of_ble_eq_true rfl) ?_
  have hSh := CI_Sh hC
  have hcl := CI_cl hC
  have hP := hA.1
  have hG8 : aG A ≤ 8 := hP.2.1
  have hT6 := hA.2.2.2.2.2.2.2.2.2.1
  have hC8 : (aP A).1 ≤ 8 := hP.1
  refine X_aload_n dX11_feed_0 rfl ?_
  refine X_geti dX11_feed_1 fkX11_108 rfl (k_0 hSh) ?_
  rw [(CI_k hC).2.2.2.2.1.1]
  refine X_bipush (v := nI 20) dX11_feed_4 (by decide) ?_
  refine X_iadd dX11_feed_6 ?_
  refine X_topi (nI_add (aTn A) 20) ?_
  refine X_sipush (v := nI 600) dX11_feed_7 (by decide) ?_
  refine X_icmp_leN (a := (aTn A) + 20) (b := 600) 15 dX11_feed_10 (by decide) (by omega) (by omega) (fun h_1 => ?_) (fun h_1 => ?_)
  · exact absurd h_1 (by omega)
  · refine X_iconst (v := -1) dX11_feed_13 (by decide) ?_
    exact X_iret dX11_feed_14 rfl ⟨rfl, hC, frK_r, rfl⟩
set_option maxRecDepth 100000 in
set_option maxHeartbeats 4000000 in
theorem r_feed_n (Γ : pTG) (g : pGG) (mi : pMI) (ml : pML) (A : AS) (hA : okAS A) (hSh : Sh g) (hR : RI A mi) (xa : Int32) (xb : Int32) (xc : Int32) (xd : Int32) (xe : Int32) (h6 : ¬ aTn A + 20 ≤ 600) : CT Γ 60 0 0 mX12_feed [.ref 87, .int xa, .int xb, .int xc, .int xd, .int xe] g mi ml (RQ A (.inl (-1)) cdN g mi ml) := by
  refine CT_of (by decide +kernel) (Nat.le_of_ble_eq_true rfl) ?_
  have hP := hA.1
  have hG8 : aG A ≤ 8 := hP.2.1
  have hT6 := hA.2.2.2.2.2.2.2.2.2.1
  have hC8 : (aP A).1 ≤ 8 := hP.1
  refine X_aload_n dX12_feed_0 rfl ?_
  refine X_iconst (v := nI 0) dX12_feed_1 (by decide) ?_
  refine X_puti dX12_feed_2 fkX12_158 rfl rfl (k_87 hSh) ?_
  refine X_aload_n dX12_feed_5 rfl ?_
  refine X_geti dX12_feed_6 fkX12_161 rfl (k_87 hSh) ?_
  rw [((up2_n (by omega)).trans hR.2.2.2.2.2.2.2.1.1)]
  refine X_bipush (v := nI 20) dX12_feed_9 (by decide) ?_
  refine X_iadd dX12_feed_11 ?_
  refine X_topi (nI_add (aTn A) 20) ?_
  refine X_sipush (v := nI 600) dX12_feed_12 (by decide) ?_
  refine X_icmp_leN (a := (aTn A) + 20) (b := 600) 20 dX12_feed_15 (by decide) (by omega) (by omega) (fun h_1 => ?_) (fun h_1 => ?_)
  · exact absurd h_1 (by omega)
  · refine X_iconst (v := -1) dX12_feed_18 (by decide) ?_
    exact X_iret dX12_feed_19 rfl ⟨rfl, rfl, RI_fr hA hR (frW_u frW_r (by unfold rsF rsR; omega)), (frM2_u frM2_r (by omega)), _, rfl, rfl, (show (up2 mi 87 0 (nI 0)) 87 0 = nI 0 by rw [up2_s])⟩
theorem RI_fd {A : AS} {m x : pMI} {xa xb xc xd xe : Int32} (hA : okAS A) (h : RI A m) (hI : (∀ q, q < 20 → x 88 (aTn A + q) = bqV xa xb xc xd xe q) ∧ (∀ q, q < aTn A → x 88 q = aT A q) ∧ x 87 1 = nI (aTn A + 20) ∧ (∀ z, z ≠ 87 ∧ z ≠ 88 → x z = m z) ∧ (∀ j, j ≠ 0 ∧ j ≠ 1 → x 87 j = m 87 j) ∧ x 87 0 = nI 0) : RI (fdA A xa xb xc xd xe) x := by
  obtain ⟨r1, r2, r3, r4, r5, r6, r7, r8, r9, r10⟩ := h
  obtain ⟨i1, i2, i3, hx, h7, _⟩ := hI
  refine ⟨rfP_w hA.1 r1 (fun i hi => hx i (by omega)), rfHb_w r2 (fun i hi => hx i (by omega)), fun b hb => by rw [hx 193 (by omega)]; exact r3 b hb, ⟨(h7 28 (by omega)).trans r4.1, fun k hk q hq => by rw [hx (143 + k) (by omega)]; exact r4.2 k hk q hq⟩, (h7 29 (by omega)).trans r5, ⟨(h7 30 (by omega)).trans r6.1, fun k hk => rfSn_row (r6.2 k hk) (hx _ (by omega))⟩, ⟨(h7 31 (by omega)).trans r7.1, fun k hk => rfIm_row (r7.2 k hk) (hx _ (by omega))⟩, ⟨i3, fun k hk => ?_⟩, (h7 3 (by omega)).trans r9, fun j hj => by rw [hx 89 (by omega)]; exact r10 j hj⟩
  have hk : k < aTn A + 20 := hk
  show x 88 k = if k < aTn A then aT A k else bqV xa xb xc xd xe (k - aTn A)
  by_cases q : k < aTn A
  · rw [if_pos q]; exact i2 k q
  · rw [if_neg q]
    have := i1 (k - aTn A) (by omega)
    rw [show aTn A + (k - aTn A) = k by omega] at this
    exact this
set_option maxRecDepth 100000 in
set_option maxHeartbeats 4000000 in
theorem r_feed (Γ : pTG) (g : pGG) (mi : pMI) (ml : pML) (A : AS) (hA : okAS A) (hSh : Sh g) (hR : RI A mi) (xa : Int32) (xb : Int32) (xc : Int32) (xd : Int32) (xe : Int32) (h6 : aTn A + 20 ≤ 600) : CT Γ 60 0 0 mX12_feed [.ref 87, .int xa, .int xb, .int xc, .int xd, .int xe] g mi ml (RQ (fdA A xa xb xc xd xe) (.inl (nI (aTn A + 20))) cdN g mi ml) := by
  refine CT_of (by decide +kernel) (Nat.le_of_ble_eq_true rfl) ?_
  have hP := hA.1
  have hG8 : aG A ≤ 8 := hP.2.1
  have hC8 : (aP A).1 ≤ 8 := hP.1
  refine X_aload_n dX12_feed_0 rfl ?_
  refine X_iconst (v := nI 0) dX12_feed_1 (by decide) ?_
  refine X_puti dX12_feed_2 fkX12_158 rfl rfl (k_87 hSh) ?_
  refine X_aload_n dX12_feed_5 rfl ?_
  refine X_geti dX12_feed_6 fkX12_161 rfl (k_87 hSh) ?_
  rw [((up2_n (by omega)).trans hR.2.2.2.2.2.2.2.1.1)]
  refine X_bipush (v := nI 20) dX12_feed_9 (by decide) ?_
  refine X_iadd dX12_feed_11 ?_
  refine X_topi (nI_add (aTn A) 20) ?_
  refine X_sipush (v := nI 600) dX12_feed_12 (by decide) ?_
  refine X_icmp_leN (a := (aTn A) + 20) (b := 600) 20 dX12_feed_15 (by decide) (by omega) (by omega) (fun h_1 => ?_) (fun h_1 => ?_)
  · refine X_iconst (v := nI 0) dX12_feed_20 (by decide) ?_
    refine X_istore dX12_feed_21 (by decide) ?_
    refine X_L [(6, .int (nI 0)), (0, .ref 87), (1, .int xa), (2, .int xb), (3, .int xc), (4, .int xd), (5, .int xe)] ⟨rfl, rfl, rfl, rfl, rfl, rfl, rfl, trivial⟩ ?_
    refine X_forR (σ := pMI) 23 (fun i y => [(6, .int (nI i)), (0, .ref 87), (1, .int xa), (2, .int xb), (3, .int xc), (4, .int xd), (5, .int xe)]) (fun y => y) (fun y => ml) (fun i y => (∀ q, q < i → y 88 (aTn A + q) = bqV xa xb xc xd xe q) ∧ (∀ q, q < aTn A → y 88 q = aT A q) ∧ y 87 1 = nI (aTn A + i) ∧ (∀ z, z ≠ 87 ∧ z ≠ 88 → y z = mi z) ∧ (∀ j, j ≠ 0 ∧ j ≠ 1 → y 87 j = mi 87 j) ∧ y 87 0 = nI 0) 20 ?_ ?_ 20 0 ((up2 mi 87 0 (nI 0))) (by omega) ⟨fun q hq => absurd hq (by omega), fun q hq => by rw [up2_row (by omega)]; exact hR.2.2.2.2.2.2.2.1.2 q hq, (up2_n (by omega)).trans hR.2.2.2.2.2.2.2.1.1, fun z hz => up2_row (by omega), fun j hj => up2_n (by omega), up2_s⟩
    · intro i y hi hI hn
      refine X_iload dX12_feed_23 rfl ?_
      refine X_bipush (v := nI 20) dX12_feed_25 (by decide) ?_
      refine X_icmp_geN (a := i) (b := 20) 120 dX12_feed_27 (by decide) (by omega) (by omega) (fun h_2 => ?_) (fun h_2 => ?_)
      · exact absurd hi (by omega)
      · refine X_iload dX12_feed_30 rfl ?_
        refine X_iconst (v := nI 4) dX12_feed_32 (by decide) ?_
        refine X_join (S := []) 76 (fun v => v = (if i < 4 then xa else if i < 8 then xb else if i < 12 then xc else if i < 16 then xd else xe)) (fun vJ hvJ => ?_) (fun hJ_3 => ?_)
        · rw [hvJ]
          refine X_istore dX12_feed_76 (by decide) ?_
          refine X_aload_n dX12_feed_78 rfl ?_
          refine X_getr (a := 88) dX12_feed_79 fkX12_13 rfl (k_87 hSh) (r_87_9 hSh) ?_
          refine X_aload_n dX12_feed_82 rfl ?_
          refine X_geti dX12_feed_83 fkX12_161 rfl (k_87 hSh) ?_
          rw [hI.2.2.1]
          refine X_iload dX12_feed_86 rfl ?_
          refine X_bipush (v := nI 24) dX12_feed_88 (by decide) ?_
          refine X_bipush (v := nI 8) dX12_feed_90 (by decide) ?_
          refine X_iload dX12_feed_92 rfl ?_
          refine X_iconst (v := nI 4) dX12_feed_94 (by decide) ?_
          refine X_irem dX12_feed_95 (nI_ne0 (by omega) (by omega)) ?_
          refine X_topi (pk_rem (a := i) (d := 4) (by omega) (by omega) (by omega)) ?_
          refine X_imul dX12_feed_96 ?_
          refine X_topi (pk_mul 8 (i % 4)) ?_
          refine X_isub dX12_feed_97 ?_
          refine X_topi (pk_sub (a := 24) (b := 8 * (i % 4)) (by omega)) ?_
          refine X_ishr dX12_feed_98 ?_
          refine X_sipush (v := nI 255) dX12_feed_99 (by decide) ?_
          refine X_iand dX12_feed_102 ?_
          refine X_topi (show (((if i < 4 then xa else if i < 8 then xb else if i < 12 then xc else if i < 16 then xd else xe)) >>> ((nI (24 - (8 * (i % 4)))) &&& 31)) &&& (nI 255) = bqV xa xb xc xd xe i from rfl) ?_
          refine X_iast (aTn A + i) dX12_feed_103 (k_88 hSh) rfl (by omega) ?_
          refine X_aload_n dX12_feed_104 rfl ?_
          refine X_dup dX12_feed_105 rfl ?_
          refine X_geti dX12_feed_106 fkX12_161 rfl (k_87 hSh) ?_
          refine X_topi (show (up2 y 88 (aTn A + i) (bqV xa xb xc xd xe i)) 87 1 = nI (aTn A + i) by rw [up2_row (by omega)]; exact hI.2.2.1) ?_
          refine X_iconst (v := nI 1) dX12_feed_109 (by decide) ?_
          refine X_iadd dX12_feed_110 ?_
          refine X_topi (nI_add (aTn A + i) 1) ?_
          refine X_puti dX12_feed_111 fkX12_161 rfl rfl (k_87 hSh) ?_
          refine X_iinc (v := nI (i + 1)) dX12_feed_114 rfl (nI_1 _) (by decide) ?_
          refine X_goto 23 dX12_feed_117 (by decide) ?_
          refine X_L [(6, .int (nI (i + 1))), (0, .ref 87), (1, .int xa), (2, .int xb), (3, .int xc), (4, .int xd), (5, .int xe)] ⟨rfl, rfl, rfl, rfl, rfl, rfl, rfl, trivial⟩ ?_
          refine hn _ ⟨fun q hq => ?_, fun q hq => ?_, up2_s, fun z hz => by rw [up2_row (by omega), up2_row (by omega)]; exact hI.2.2.2.1 z hz, fun j hj => by rw [up2_nn (by omega), up2_nn (by omega)]; exact hI.2.2.2.2.1 j hj, by rw [up2_n (by omega), up2_row (by omega)]; exact hI.2.2.2.2.2⟩
          · rw [up2_row (by omega)]
            by_cases hz : q = i
            · subst hz; exact up2_s
            · rw [up2_n (by omega)]; exact hI.1 q (by omega)
          · rw [up2_row (by omega), up2_n (by omega)]; exact hI.2.1 q hq
        · refine X_icmp_geN (a := i) (b := 4) 40 dX12_feed_33 (by decide) (by omega) (by omega) (fun h_4 => ?_) (fun h_4 => ?_)
          · refine X_iload dX12_feed_40 rfl ?_
            refine X_bipush (v := nI 8) dX12_feed_42 (by decide) ?_
            refine X_icmp_geN (a := i) (b := 8) 51 dX12_feed_44 (by decide) (by omega) (by omega) (fun h_5 => ?_) (fun h_5 => ?_)
            · refine X_iload dX12_feed_51 rfl ?_
              refine X_bipush (v := nI 12) dX12_feed_53 (by decide) ?_
              refine X_icmp_geN (a := i) (b := 12) 62 dX12_feed_55 (by decide) (by omega) (by omega) (fun h_6 => ?_) (fun h_6 => ?_)
              · refine X_iload dX12_feed_62 rfl ?_
                refine X_bipush (v := nI 16) dX12_feed_64 (by decide) ?_
                refine X_icmp_geN (a := i) (b := 16) 74 dX12_feed_66 (by decide) (by omega) (by omega) (fun h_7 => ?_) (fun h_7 => ?_)
                · refine X_iload dX12_feed_74 rfl ?_
                  exact hJ_3 _ (by first | (rw [if_pos (by assumption)]; done) | (rw [if_neg (by omega), if_pos (by assumption)]; done) | (rw [if_neg (by omega), if_neg (by omega), if_pos (by assumption)]; done) | (rw [if_neg (by omega), if_neg (by omega), if_neg (by omega), if_pos (by assumption)]; done) | rw [if_neg (by omega), if_neg (by omega), if_neg (by omega), if_neg (by omega)])
                · refine X_iload dX12_feed_69 rfl ?_
                  refine X_goto 76 dX12_feed_71 (by decide) ?_
                  exact hJ_3 _ (by first | (rw [if_pos (by assumption)]; done) | (rw [if_neg (by omega), if_pos (by assumption)]; done) | (rw [if_neg (by omega), if_neg (by omega), if_pos (by assumption)]; done) | (rw [if_neg (by omega), if_neg (by omega), if_neg (by omega), if_pos (by assumption)]; done) | rw [if_neg (by omega), if_neg (by omega), if_neg (by omega), if_neg (by omega)])
              · refine X_iload_n dX12_feed_58 rfl ?_
                refine X_goto 76 dX12_feed_59 (by decide) ?_
                exact hJ_3 _ (by first | (rw [if_pos (by assumption)]; done) | (rw [if_neg (by omega), if_pos (by assumption)]; done) | (rw [if_neg (by omega), if_neg (by omega), if_pos (by assumption)]; done) | (rw [if_neg (by omega), if_neg (by omega), if_neg (by omega), if_pos (by assumption)]; done) | rw [if_neg (by omega), if_neg (by omega), if_neg (by omega), if_neg (by omega)])
            · refine X_iload_n dX12_feed_47 rfl ?_
              refine X_goto 76 dX12_feed_48 (by decide) ?_
              exact hJ_3 _ (by first | (rw [if_pos (by assumption)]; done) | (rw [if_neg (by omega), if_pos (by assumption)]; done) | (rw [if_neg (by omega), if_neg (by omega), if_pos (by assumption)]; done) | (rw [if_neg (by omega), if_neg (by omega), if_neg (by omega), if_pos (by assumption)]; done) | rw [if_neg (by omega), if_neg (by omega), if_neg (by omega), if_neg (by omega)])
          · refine X_iload_n dX12_feed_36 rfl ?_
            refine X_goto 76 dX12_feed_37 (by decide) ?_
            exact hJ_3 _ (by first | (rw [if_pos (by assumption)]; done) | (rw [if_neg (by omega), if_pos (by assumption)]; done) | (rw [if_neg (by omega), if_neg (by omega), if_pos (by assumption)]; done) | (rw [if_neg (by omega), if_neg (by omega), if_neg (by omega), if_pos (by assumption)]; done) | rw [if_neg (by omega), if_neg (by omega), if_neg (by omega), if_neg (by omega)])
    · intro y hI
      refine X_iload dX12_feed_23 rfl ?_
      refine X_bipush (v := nI 20) dX12_feed_25 (by decide) ?_
      refine X_icmp_geN (a := 20) (b := 20) 120 dX12_feed_27 (by decide) (by omega) (by omega) (fun h_8 => ?_) (fun h_8 => ?_)
      · refine X_aload_n dX12_feed_120 rfl ?_
        refine X_geti dX12_feed_121 fkX12_161 rfl (k_87 hSh) ?_
        rw [hI.2.2.1]
        exact X_iret dX12_feed_124 rfl ⟨rfl, rfl, RI_fd hA hR hI, fun i hi => hI.2.2.2.1 i (by omega), _, rfl, rfl, hI.2.2.2.2.2⟩
      · exact absurd h_8 (by omega)
  · exact absurd h_1 (by omega)
theorem m_feed (A : AS) (hA : okAS A) (xa : Int32) (xb : Int32) (xc : Int32) (xd : Int32) (xe : Int32) : MOK mX11_feed mX12_feed cdN [.int xa, .int xb, .int xc, .int xd, .int xe] A := by
  by_cases h6 : aTn A + 20 ≤ 600
  · exact ⟨.inl (nI (aTn A + 20)), fdA A xa xb xc xd xe, ok_fd hA h6, fun j h => (by cases h), fun Γ g m l hC => k_feed Γ g m l A hA hC xa xb xc xd xe h6, fun Γ g m l hSh hR => r_feed Γ g m l A hA hSh hR xa xb xc xd xe h6⟩
  · exact ⟨.inl (-1), A, hA, fun j h => (by cases h), fun Γ g m l hC => k_feed_n Γ g m l A hA hC xa xb xc xd xe h6, fun Γ g m l hSh hR => r_feed_n Γ g m l A hA hSh hR xa xb xc xd xe h6⟩

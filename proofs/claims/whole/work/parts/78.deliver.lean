/-! delivering -/
theorem nb_comm {pa : Nat → Nat} {u v : Nat} (h : nb pa u v) : nb pa v u := by
  rcases h with h | h
  · exact Or.inr h
  · exact Or.inl h
theorem sRem_f (A : mm_A) (i : Nat) {a : Nat} (h9 : a ≠ 9) (h10 : a ≠ 10) : sRem A i a = A a := by
  unfold sRem
  rw [as_f h9]
  funext b w
  simp [h10]
theorem sSend_62 (sh : Nat) (A : mm_A) (fr to c a d : Nat) : sSend sh A fr to c a 6 d 2 = A 6 d 2 := by
  have e : ∀ d', sApp A d' c a 6 d 2 = A 6 d 2 := fun d' => by simp [sApp, as_ap]
  unfold sSend
  split
  · unfold sPF
    rw [sPut_f (by decide) (by decide), e]
  · rw [e]
theorem sTake_62 (sh : Nat) (A : mm_A) (fr to c a d : Nat) : sTake sh A fr to c a 6 d 2 = A 6 d 2 := by
  unfold sTake
  split
  · split
    · rw [sOn_o _ _ _ (by decide) (by decide) (by decide)]
      simp [as_ap]
    · simp [as_ap]
  · rw [sSend_62]
    simp [as_ap]
def sAck (sh : Nat) (A : mm_A) (to fr : Nat) : mm_A := if A 6 (dr (pa3 sh) to fr) 0 + 1 = A 6 (dr (pa3 sh) to fr) 1 then as A 6 (dr (pa3 sh) to fr) 0 (A 6 (dr (pa3 sh) to fr) 0 + 1) else sPF (as A 6 (dr (pa3 sh) to fr) 0 (A 6 (dr (pa3 sh) to fr) 0 + 1)) (dr (pa3 sh) to fr) to fr
/-- an acknowledgement that moves the line -/
theorem k_ack {n sh T : Nat} {C : mm_M} {A : mm_A} (h : Rp n sh C A) (hn : n ≤ 12) (hT : T ≤ 1000000) (hP : Pr n sh T A) {fr to : Nat} (hf : fr < n) (ht : to < n) (hlt : A 6 (dr (pa3 sh) to fr) 0 < A 6 (dr (pa3 sh) to fr) 1) : CR n sh C (fun g => f_Ma_acknowledged n g 0 (nI to) (nI fr) (nI (A 6 (dr (pa3 sh) to fr) 0))) 0 (nI 1) (sAck sh A to fr) := by
  have hd := dr_lt (sh := sh) ht hf
  have hl := k_line h hn ht hf
  unfold sAck
  generalize dr (pa3 sh) to fr = d at *
  have b := h.2.2.1 d hd
  have z := hP.2.2.1 d hd
  have e1 : ∀ M, f_Li_isEmpty n (jn C M) d = some (0, nI 0, jn C M) := fun M => by
    rw [k_empty h hd (by omega) (by omega), if_neg (by omega)]
  have p1 := Rp_fi h hd (v := nI (A 6 d 0 + 1)) (x := A 6 d 0 + 1) (by omega) rfl
  have e2 : ∀ M, f_Li_removeFirst n (jn C M) d (nI (A 6 d 0)) = some (0, nI 1, jn (mm_st C 14 d 2 (nI (A 6 d 0 + 1))) M) := fun M => by
    simp +decide (disch := omega) only [f_Li_removeFirst, f_Li_removeFirst_b15, e1, b.1, jn_0, jn_1, jn_2, jn_3, jn_4, jn_5, jn_6, jn_7, jn_8, jn_9, jn_10, jn_11, jn_12, jn_13, jn_14, jn_15, jn_16, jn_20, jn_21, jn_22, jn_23, jn_24, jn_25, jn_26, jn_27, jn_28, jn_29, jn_30, jn_31, jn_32, jn_33, jn_34, jn_35, jn_36, jn_37, jn_38, jn_39, jn_40, jn_41, jn_42, jn_43, jn_44, jn_50, js_0, js_1, js_2, js_3, js_4, js_5, js_6, js_7, js_8, js_9, js_10, js_11, js_12, js_13, js_14, js_15, js_16, js_20, js_21, js_22, js_23, js_24, js_25, js_26, js_27, js_28, js_29, js_30, js_31, js_32, js_33, js_34, js_35, js_36, js_37, js_38, js_39, js_40, js_41, js_42, js_43, js_44, js_50, bd_0, bd_1, bd_2, bd_3, let_e, nz_0, nz_1, nz_n0, nz_n1, ix_n, nl_0, nl_1, nl_2, nl_3, nl_4, nl_5, nl_6, nl_7, nl_8, nl_9, nl_10, nl_11, nl_12, nl_16, nl_40, nl_64, nl_200, nl_1000, nl_m, nl_m2, nar_0, nar_1, nI_cl, nI_E, nI_L, nI_T, nI_m, nI_m', nI_ng, nN_lt, nN_le, nI_add, pk_mul, nI_S, nI_R4, nI_R64, nI_32, st_eq, st_k, st_j, if_true, if_false, Nat.not_lt_zero, Nat.zero_le]
  have g0 : as A 6 d 0 (A 6 d 0 + 1) 6 d 0 = A 6 d 0 + 1 := as_e _ _ _ _ _
  have g1 : as A 6 d 0 (A 6 d 0 + 1) 6 d 1 = A 6 d 1 := as_j (by decide)
  have e3 := fun M => k_empty p1 hd (by rw [g0]; omega) (by rw [g1]; omega) M
  rw [g0, g1] at e3
  by_cases e : A 6 d 0 + 1 = A 6 d 1
  · rw [if_pos e]
    refine ⟨_, fun M => ?_, p1⟩
    have e3 := e3 M
    rw [if_pos e] at e3
    simp +decide (disch := omega) only [f_Ma_acknowledged, f_Ma_acknowledged_b35, hl, e2, e3, jn_0, jn_1, jn_2, jn_3, jn_4, jn_5, jn_6, jn_7, jn_8, jn_9, jn_10, jn_11, jn_12, jn_13, jn_14, jn_15, jn_16, jn_20, jn_21, jn_22, jn_23, jn_24, jn_25, jn_26, jn_27, jn_28, jn_29, jn_30, jn_31, jn_32, jn_33, jn_34, jn_35, jn_36, jn_37, jn_38, jn_39, jn_40, jn_41, jn_42, jn_43, jn_44, jn_50, js_0, js_1, js_2, js_3, js_4, js_5, js_6, js_7, js_8, js_9, js_10, js_11, js_12, js_13, js_14, js_15, js_16, js_20, js_21, js_22, js_23, js_24, js_25, js_26, js_27, js_28, js_29, js_30, js_31, js_32, js_33, js_34, js_35, js_36, js_37, js_38, js_39, js_40, js_41, js_42, js_43, js_44, js_50, bd_0, bd_1, bd_2, bd_3, let_e, nz_0, nz_1, nz_n0, nz_n1, ix_n, nl_0, nl_1, nl_2, nl_3, nl_4, nl_5, nl_6, nl_7, nl_8, nl_9, nl_10, nl_11, nl_12, nl_16, nl_40, nl_64, nl_200, nl_1000, nl_m, nl_m2, nar_0, nar_1, nI_cl, nI_E, nI_L, nI_T, nI_m, nI_m', nI_ng, nN_lt, nN_le, nI_add, pk_mul, nI_S, nI_R4, nI_R64, nI_32, st_eq, st_k, st_j, if_true, if_false, Nat.not_lt_zero, Nat.zero_le]
  · rw [if_neg e]
    have q := z.2.2.2.2 (A 6 d 0 + 1) (by omega) (by omega)
    obtain ⟨C1, f1, p2⟩ := k_pf p1 (by rw [as_f (show 9 ≠ 6 by decide)]; exact hP.2.2.2.1.1) hd (by rw [g0, g1]; omega) (by rw [g1]; omega) (by rw [g0, as_f (show 7 ≠ 6 by decide)]; omega) (by rw [g0, as_f (show 8 ≠ 6 by decide)]; omega) to fr
    refine ⟨C1, fun M => ?_, p2⟩
    have e3 := e3 M
    rw [if_neg e] at e3
    simp +decide (disch := omega) only [f_Ma_acknowledged, f_Ma_acknowledged_b35, hl, e2, e3, f1, jn_0, jn_1, jn_2, jn_3, jn_4, jn_5, jn_6, jn_7, jn_8, jn_9, jn_10, jn_11, jn_12, jn_13, jn_14, jn_15, jn_16, jn_20, jn_21, jn_22, jn_23, jn_24, jn_25, jn_26, jn_27, jn_28, jn_29, jn_30, jn_31, jn_32, jn_33, jn_34, jn_35, jn_36, jn_37, jn_38, jn_39, jn_40, jn_41, jn_42, jn_43, jn_44, jn_50, js_0, js_1, js_2, js_3, js_4, js_5, js_6, js_7, js_8, js_9, js_10, js_11, js_12, js_13, js_14, js_15, js_16, js_20, js_21, js_22, js_23, js_24, js_25, js_26, js_27, js_28, js_29, js_30, js_31, js_32, js_33, js_34, js_35, js_36, js_37, js_38, js_39, js_40, js_41, js_42, js_43, js_44, js_50, bd_0, bd_1, bd_2, bd_3, let_e, nz_0, nz_1, nz_n0, nz_n1, ix_n, nl_0, nl_1, nl_2, nl_3, nl_4, nl_5, nl_6, nl_7, nl_8, nl_9, nl_10, nl_11, nl_12, nl_16, nl_40, nl_64, nl_200, nl_1000, nl_m, nl_m2, nar_0, nar_1, nI_cl, nI_E, nI_L, nI_T, nI_m, nI_m', nI_ng, nN_lt, nN_le, nI_add, pk_mul, nI_S, nI_R4, nI_R64, nI_32, st_eq, st_k, st_j, if_true, if_false, Nat.not_lt_zero, Nat.zero_le]
theorem k_nack {n sh T : Nat} {C : mm_M} {A : mm_A} (h : Rp n sh C A) (hn : n ≤ 12) (hT : T ≤ 1000000) (hP : Pr n sh T A) {fr to nu : Nat} (hf : fr < n) (ht : to < n) (hnu : nu ≤ 1000000) (hlt : A 6 (dr (pa3 sh) to fr) 0 = A 6 (dr (pa3 sh) to fr) 1 ∨ nu ≠ A 6 (dr (pa3 sh) to fr) 0) (M : mm_M) : f_Ma_acknowledged n (jn C M) 0 (nI to) (nI fr) (nI nu) = some (0, nI 0, jn C M) := by
  have hd := dr_lt (sh := sh) ht hf
  have hl := k_line h hn ht hf
  generalize dr (pa3 sh) to fr = d at *
  have b := h.2.2.1 d hd
  have z := hP.2.2.1 d hd
  have e1 := k_empty h hd (by omega) (by omega) M
  by_cases e : A 6 d 0 = A 6 d 1
  · rw [if_pos e] at e1
    simp +decide (disch := omega) only [f_Ma_acknowledged, f_Li_removeFirst, f_Li_removeFirst_b15, hl, e1, jn_0, jn_1, jn_2, jn_3, jn_4, jn_5, jn_6, jn_7, jn_8, jn_9, jn_10, jn_11, jn_12, jn_13, jn_14, jn_15, jn_16, jn_20, jn_21, jn_22, jn_23, jn_24, jn_25, jn_26, jn_27, jn_28, jn_29, jn_30, jn_31, jn_32, jn_33, jn_34, jn_35, jn_36, jn_37, jn_38, jn_39, jn_40, jn_41, jn_42, jn_43, jn_44, jn_50, js_0, js_1, js_2, js_3, js_4, js_5, js_6, js_7, js_8, js_9, js_10, js_11, js_12, js_13, js_14, js_15, js_16, js_20, js_21, js_22, js_23, js_24, js_25, js_26, js_27, js_28, js_29, js_30, js_31, js_32, js_33, js_34, js_35, js_36, js_37, js_38, js_39, js_40, js_41, js_42, js_43, js_44, js_50, bd_0, bd_1, bd_2, bd_3, let_e, nz_0, nz_1, nz_n0, nz_n1, ix_n, nl_0, nl_1, nl_2, nl_3, nl_4, nl_5, nl_6, nl_7, nl_8, nl_9, nl_10, nl_11, nl_12, nl_16, nl_40, nl_64, nl_200, nl_1000, nl_m, nl_m2, nar_0, nar_1, nI_cl, nI_E, nI_L, nI_T, nI_m, nI_m', nI_ng, nN_lt, nN_le, nI_add, pk_mul, nI_S, nI_R4, nI_R64, nI_32, st_eq, st_k, st_j, if_true, if_false, Nat.not_lt_zero, Nat.zero_le]
  · rw [if_neg e] at e1
    have e2 : ¬ nu = A 6 d 0 := by omega
    simp +decide (disch := omega) only [f_Ma_acknowledged, f_Li_removeFirst, f_Li_removeFirst_b15, hl, e1, b.1, e2, jn_0, jn_1, jn_2, jn_3, jn_4, jn_5, jn_6, jn_7, jn_8, jn_9, jn_10, jn_11, jn_12, jn_13, jn_14, jn_15, jn_16, jn_20, jn_21, jn_22, jn_23, jn_24, jn_25, jn_26, jn_27, jn_28, jn_29, jn_30, jn_31, jn_32, jn_33, jn_34, jn_35, jn_36, jn_37, jn_38, jn_39, jn_40, jn_41, jn_42, jn_43, jn_44, jn_50, js_0, js_1, js_2, js_3, js_4, js_5, js_6, js_7, js_8, js_9, js_10, js_11, js_12, js_13, js_14, js_15, js_16, js_20, js_21, js_22, js_23, js_24, js_25, js_26, js_27, js_28, js_29, js_30, js_31, js_32, js_33, js_34, js_35, js_36, js_37, js_38, js_39, js_40, js_41, js_42, js_43, js_44, js_50, bd_0, bd_1, bd_2, bd_3, let_e, nz_0, nz_1, nz_n0, nz_n1, ix_n, nl_0, nl_1, nl_2, nl_3, nl_4, nl_5, nl_6, nl_7, nl_8, nl_9, nl_10, nl_11, nl_12, nl_16, nl_40, nl_64, nl_200, nl_1000, nl_m, nl_m2, nar_0, nar_1, nI_cl, nI_E, nI_L, nI_T, nI_m, nI_m', nI_ng, nN_lt, nN_le, nI_add, pk_mul, nI_S, nI_R4, nI_R64, nI_32, st_eq, st_k, st_j, if_true, if_false, Nat.not_lt_zero, Nat.zero_le]
theorem Pr_sAck {n sh T : Nat} {A : mm_A} (hP : Pr n sh T A) {fr to : Nat} (hf : fr < n) (ht : to < n) (hnb : nb (pa3 sh) to fr) (hlt : A 6 (dr (pa3 sh) to fr) 0 < A 6 (dr (pa3 sh) to fr) 1) (hdu : A 6 (dr (pa3 sh) to fr) 0 < A 6 (dr (pa3 sh) to fr) 2) : Pr n sh T (sAck sh A to fr) := by
  have p := Pr_ack hP (dr_lt (sh := sh) ht hf) hdu
  unfold sAck
  split
  · exact p
  · rename_i e
    refine Pr_PF p ht hf hnb ?_
    rw [as_e, as_j (show 1 ≠ 0 by decide)]
    omega
theorem k_tn {n sh : Nat} {C : mm_M} {A : mm_A} (h : Rp n sh C A) (hn : n ≤ 12) {fr to : Nat} (hf : fr < n) (ht : to < n) (hb : A 6 (dr (pa3 sh) fr to) 2 ≤ 1000000) (M : mm_M) : f_Ma_takesNext n (jn C M) 0 (nI fr) (nI to) (nI (A 6 (dr (pa3 sh) fr to) 2)) = some (0, nI 1, jn (mm_st C 14 (dr (pa3 sh) fr to) 4 (nI (A 6 (dr (pa3 sh) fr to) 2 + 1))) M) := by
  have hd := dr_lt (sh := sh) hf ht
  have hl := k_line h hn hf ht
  generalize dr (pa3 sh) fr to = d at *
  have b := h.2.2.1 d hd
  simp +decide (disch := omega) only [f_Ma_takesNext, f_Li_takesNext, hl, b.2.2.1, jn_0, jn_1, jn_2, jn_3, jn_4, jn_5, jn_6, jn_7, jn_8, jn_9, jn_10, jn_11, jn_12, jn_13, jn_14, jn_15, jn_16, jn_20, jn_21, jn_22, jn_23, jn_24, jn_25, jn_26, jn_27, jn_28, jn_29, jn_30, jn_31, jn_32, jn_33, jn_34, jn_35, jn_36, jn_37, jn_38, jn_39, jn_40, jn_41, jn_42, jn_43, jn_44, jn_50, js_0, js_1, js_2, js_3, js_4, js_5, js_6, js_7, js_8, js_9, js_10, js_11, js_12, js_13, js_14, js_15, js_16, js_20, js_21, js_22, js_23, js_24, js_25, js_26, js_27, js_28, js_29, js_30, js_31, js_32, js_33, js_34, js_35, js_36, js_37, js_38, js_39, js_40, js_41, js_42, js_43, js_44, js_50, bd_0, bd_1, bd_2, bd_3, let_e, nz_0, nz_1, nz_n0, nz_n1, ix_n, nl_0, nl_1, nl_2, nl_3, nl_4, nl_5, nl_6, nl_7, nl_8, nl_9, nl_10, nl_11, nl_12, nl_16, nl_40, nl_64, nl_200, nl_1000, nl_m, nl_m2, nar_0, nar_1, nI_cl, nI_E, nI_L, nI_T, nI_m, nI_m', nI_ng, nN_lt, nN_le, nI_add, pk_mul, nI_S, nI_R4, nI_R64, nI_32, st_eq, st_k, st_j, if_true, if_false, Nat.not_lt_zero, Nat.zero_le]
theorem k_tnn {n sh : Nat} {C : mm_M} {A : mm_A} (h : Rp n sh C A) (hn : n ≤ 12) {fr to nu : Nat} (hf : fr < n) (ht : to < n) (hb : A 6 (dr (pa3 sh) fr to) 2 ≤ 1000000) (hnu : nu ≤ 1000000) (hne : ¬ nu = A 6 (dr (pa3 sh) fr to) 2) (M : mm_M) : f_Ma_takesNext n (jn C M) 0 (nI fr) (nI to) (nI nu) = some (0, nI 0, jn C M) := by
  have hd := dr_lt (sh := sh) hf ht
  have hl := k_line h hn hf ht
  generalize dr (pa3 sh) fr to = d at *
  have b := h.2.2.1 d hd
  simp +decide (disch := omega) only [f_Ma_takesNext, f_Li_takesNext, hl, b.2.2.1, hne, jn_0, jn_1, jn_2, jn_3, jn_4, jn_5, jn_6, jn_7, jn_8, jn_9, jn_10, jn_11, jn_12, jn_13, jn_14, jn_15, jn_16, jn_20, jn_21, jn_22, jn_23, jn_24, jn_25, jn_26, jn_27, jn_28, jn_29, jn_30, jn_31, jn_32, jn_33, jn_34, jn_35, jn_36, jn_37, jn_38, jn_39, jn_40, jn_41, jn_42, jn_43, jn_44, jn_50, js_0, js_1, js_2, js_3, js_4, js_5, js_6, js_7, js_8, js_9, js_10, js_11, js_12, js_13, js_14, js_15, js_16, js_20, js_21, js_22, js_23, js_24, js_25, js_26, js_27, js_28, js_29, js_30, js_31, js_32, js_33, js_34, js_35, js_36, js_37, js_38, js_39, js_40, js_41, js_42, js_43, js_44, js_50, bd_0, bd_1, bd_2, bd_3, let_e, nz_0, nz_1, nz_n0, nz_n1, ix_n, nl_0, nl_1, nl_2, nl_3, nl_4, nl_5, nl_6, nl_7, nl_8, nl_9, nl_10, nl_11, nl_12, nl_16, nl_40, nl_64, nl_200, nl_1000, nl_m, nl_m2, nar_0, nar_1, nI_cl, nI_E, nI_L, nI_T, nI_m, nI_m', nI_ng, nN_lt, nN_le, nI_add, pk_mul, nI_S, nI_R4, nI_R64, nI_32, st_eq, st_k, st_j, if_true, if_false, Nat.not_lt_zero, Nat.zero_le]

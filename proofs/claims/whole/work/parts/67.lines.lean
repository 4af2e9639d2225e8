/-! lines -/
theorem pr3_eq {sh fr to : Nat} (hf : fr < 12) (ht : to < 12) : pr3 sh fr = nI to ↔ (1 ≤ fr ∧ pa3 sh fr = to) := by
  unfold pr3
  by_cases c : fr = 0
  · rw [if_pos c, nI_m' (by omega)]
    exact ⟨fun q => q.elim, fun q => absurd q.1 (by omega)⟩
  · have := pa3_lt sh fr (by omega)
    rw [if_neg c, nI_E (by omega) (by omega)]
    omega
theorem dr_lt {sh n fr to : Nat} (hf : fr < n) (ht : to < n) : dr (pa3 sh) fr to < 2 * n := by
  unfold dr
  split <;> omega
theorem k_line {n sh : Nat} {C : mm_M} {A : mm_A} (h : Rp n sh C A) (hn : n ≤ 12) {fr to : Nat} (hf : fr < n) (ht : to < n) (M : mm_M) : f_Ma_lineBetween n (jn C M) 0 (nI fr) (nI to) = some (0, dr (pa3 sh) fr to, jn C M) := by
  have h3 := h.2.2.2.2.2.2.2 fr hf
  have e := pr3_eq (sh := sh) (fr := fr) (to := to) (by omega) (by omega)
  by_cases c : 1 ≤ fr ∧ pa3 sh fr = to
  · have e1 := e.mpr c
    rw [e1] at h3
    simp +decide (disch := omega) only [f_Ma_lineBetween, f_Tr_isParent, f_Tr_isParent_b15, f_Ma_lineBetween_b33, h3, show (1 = 0) = False by simp, jn_0, jn_1, jn_2, jn_3, jn_4, jn_5, jn_6, jn_7, jn_8, jn_9, jn_10, jn_11, jn_12, jn_13, jn_14, jn_15, jn_16, jn_20, jn_21, jn_22, jn_23, jn_24, jn_25, jn_26, jn_27, jn_28, jn_29, jn_30, jn_31, jn_32, jn_33, jn_34, jn_35, jn_36, jn_37, jn_38, jn_39, jn_40, jn_41, jn_42, jn_43, jn_44, jn_50, js_0, js_1, js_2, js_3, js_4, js_5, js_6, js_7, js_8, js_9, js_10, js_11, js_12, js_13, js_14, js_15, js_16, js_20, js_21, js_22, js_23, js_24, js_25, js_26, js_27, js_28, js_29, js_30, js_31, js_32, js_33, js_34, js_35, js_36, js_37, js_38, js_39, js_40, js_41, js_42, js_43, js_44, js_50, bd_0, bd_1, bd_2, bd_3, let_e, nz_0, nz_1, nz_n0, nz_n1, ix_n, nl_0, nl_1, nl_2, nl_3, nl_4, nl_5, nl_6, nl_7, nl_8, nl_9, nl_10, nl_11, nl_12, nl_16, nl_40, nl_64, nl_200, nl_1000, nl_m, nl_m2, nar_0, nar_1, nI_cl, nI_E, nI_L, nI_T, nI_m, nI_m', nI_ng, nN_lt, nN_le, nI_add, pk_mul, nI_S, nI_R4, nI_R64, nI_32, st_eq, st_k, st_j, if_true, if_false]
    unfold dr
    rw [if_pos c]
  · have e1 : ¬ pr3 sh fr = nI to := fun q => c (e.mp q)
    simp +decide (disch := omega) only [f_Ma_lineBetween, f_Tr_isParent, f_Tr_isParent_b15, f_Ma_lineBetween_b33, h3, e1, jn_0, jn_1, jn_2, jn_3, jn_4, jn_5, jn_6, jn_7, jn_8, jn_9, jn_10, jn_11, jn_12, jn_13, jn_14, jn_15, jn_16, jn_20, jn_21, jn_22, jn_23, jn_24, jn_25, jn_26, jn_27, jn_28, jn_29, jn_30, jn_31, jn_32, jn_33, jn_34, jn_35, jn_36, jn_37, jn_38, jn_39, jn_40, jn_41, jn_42, jn_43, jn_44, jn_50, js_0, js_1, js_2, js_3, js_4, js_5, js_6, js_7, js_8, js_9, js_10, js_11, js_12, js_13, js_14, js_15, js_16, js_20, js_21, js_22, js_23, js_24, js_25, js_26, js_27, js_28, js_29, js_30, js_31, js_32, js_33, js_34, js_35, js_36, js_37, js_38, js_39, js_40, js_41, js_42, js_43, js_44, js_50, bd_0, bd_1, bd_2, bd_3, let_e, nz_0, nz_1, nz_n0, nz_n1, ix_n, nl_0, nl_1, nl_2, nl_3, nl_4, nl_5, nl_6, nl_7, nl_8, nl_9, nl_10, nl_11, nl_12, nl_16, nl_40, nl_64, nl_200, nl_1000, nl_m, nl_m2, nar_0, nar_1, nI_cl, nI_E, nI_L, nI_T, nI_m, nI_m', nI_ng, nN_lt, nN_le, nI_add, pk_mul, nI_S, nI_R4, nI_R64, nI_32, st_eq, st_k, st_j, if_true, if_false]
    unfold dr
    rw [if_neg c]
theorem q_dir {n sh : Nat} {M : mm_M} {A : mm_A} (h : Rm n sh M A) (hn : n ≤ 12) {fr to : Nat} (hf : fr < n) (ht : to < n) (C : mm_M) : f_Mo_direction n (jn C M) 0 (nI fr) (nI to) = some (0, nI (dr (pa3 sh) fr to), jn C M) := by
  have h3 := h.2.2.2.2.2.2 fr (by omega)
  have e := pr3_eq (sh := sh) (fr := fr) (to := to) (by omega) (by omega)
  by_cases c : 1 ≤ fr ∧ pa3 sh fr = to
  · have e1 := e.mpr c
    rw [e1] at h3
    simp +decide (disch := omega) only [f_Mo_direction, f_Mo_direction_b21, h3, jn_0, jn_1, jn_2, jn_3, jn_4, jn_5, jn_6, jn_7, jn_8, jn_9, jn_10, jn_11, jn_12, jn_13, jn_14, jn_15, jn_16, jn_20, jn_21, jn_22, jn_23, jn_24, jn_25, jn_26, jn_27, jn_28, jn_29, jn_30, jn_31, jn_32, jn_33, jn_34, jn_35, jn_36, jn_37, jn_38, jn_39, jn_40, jn_41, jn_42, jn_43, jn_44, jn_50, js_0, js_1, js_2, js_3, js_4, js_5, js_6, js_7, js_8, js_9, js_10, js_11, js_12, js_13, js_14, js_15, js_16, js_20, js_21, js_22, js_23, js_24, js_25, js_26, js_27, js_28, js_29, js_30, js_31, js_32, js_33, js_34, js_35, js_36, js_37, js_38, js_39, js_40, js_41, js_42, js_43, js_44, js_50, bd_0, bd_1, bd_2, bd_3, let_e, nz_0, nz_1, nz_n0, nz_n1, ix_n, nl_0, nl_1, nl_2, nl_3, nl_4, nl_5, nl_6, nl_7, nl_8, nl_9, nl_10, nl_11, nl_12, nl_16, nl_40, nl_64, nl_200, nl_1000, nl_m, nl_m2, nar_0, nar_1, nI_cl, nI_E, nI_L, nI_T, nI_m, nI_m', nI_ng, nN_lt, nN_le, nI_add, pk_mul, nI_S, nI_R4, nI_R64, nI_32, st_eq, st_k, st_j, if_true, if_false]
    unfold dr
    rw [if_pos c]
  · have e1 : ¬ pr3 sh fr = nI to := fun q => c (e.mp q)
    simp +decide (disch := omega) only [f_Mo_direction, f_Mo_direction_b21, h3, e1, jn_0, jn_1, jn_2, jn_3, jn_4, jn_5, jn_6, jn_7, jn_8, jn_9, jn_10, jn_11, jn_12, jn_13, jn_14, jn_15, jn_16, jn_20, jn_21, jn_22, jn_23, jn_24, jn_25, jn_26, jn_27, jn_28, jn_29, jn_30, jn_31, jn_32, jn_33, jn_34, jn_35, jn_36, jn_37, jn_38, jn_39, jn_40, jn_41, jn_42, jn_43, jn_44, jn_50, js_0, js_1, js_2, js_3, js_4, js_5, js_6, js_7, js_8, js_9, js_10, js_11, js_12, js_13, js_14, js_15, js_16, js_20, js_21, js_22, js_23, js_24, js_25, js_26, js_27, js_28, js_29, js_30, js_31, js_32, js_33, js_34, js_35, js_36, js_37, js_38, js_39, js_40, js_41, js_42, js_43, js_44, js_50, bd_0, bd_1, bd_2, bd_3, let_e, nz_0, nz_1, nz_n0, nz_n1, ix_n, nl_0, nl_1, nl_2, nl_3, nl_4, nl_5, nl_6, nl_7, nl_8, nl_9, nl_10, nl_11, nl_12, nl_16, nl_40, nl_64, nl_200, nl_1000, nl_m, nl_m2, nar_0, nar_1, nI_cl, nI_E, nI_L, nI_T, nI_m, nI_m', nI_ng, nN_lt, nN_le, nI_add, pk_mul, nI_S, nI_R4, nI_R64, nI_32, st_eq, st_k, st_j, if_true, if_false]
    unfold dr
    rw [if_neg c]
theorem k_empty {n sh : Nat} {C : mm_M} {A : mm_A} (h : Rp n sh C A) {d : Nat} (hd : d < 2 * n) (h0 : A 6 d 0 ≤ 1000000) (h1 : A 6 d 1 ≤ 1000000) (M : mm_M) : f_Li_isEmpty n (jn C M) d = some (0, nI (if A 6 d 0 = A 6 d 1 then 1 else 0), jn C M) := by
  have a := h.2.2.1 d hd
  by_cases c : A 6 d 0 = A 6 d 1
  · simp +decide (disch := omega) only [f_Li_isEmpty, f_Li_isEmpty_b16, a.1, a.2.1, c, jn_0, jn_1, jn_2, jn_3, jn_4, jn_5, jn_6, jn_7, jn_8, jn_9, jn_10, jn_11, jn_12, jn_13, jn_14, jn_15, jn_16, jn_20, jn_21, jn_22, jn_23, jn_24, jn_25, jn_26, jn_27, jn_28, jn_29, jn_30, jn_31, jn_32, jn_33, jn_34, jn_35, jn_36, jn_37, jn_38, jn_39, jn_40, jn_41, jn_42, jn_43, jn_44, jn_50, js_0, js_1, js_2, js_3, js_4, js_5, js_6, js_7, js_8, js_9, js_10, js_11, js_12, js_13, js_14, js_15, js_16, js_20, js_21, js_22, js_23, js_24, js_25, js_26, js_27, js_28, js_29, js_30, js_31, js_32, js_33, js_34, js_35, js_36, js_37, js_38, js_39, js_40, js_41, js_42, js_43, js_44, js_50, bd_0, bd_1, bd_2, bd_3, let_e, nz_0, nz_1, nz_n0, nz_n1, ix_n, nl_0, nl_1, nl_2, nl_3, nl_4, nl_5, nl_6, nl_7, nl_8, nl_9, nl_10, nl_11, nl_12, nl_16, nl_40, nl_64, nl_200, nl_1000, nl_m, nl_m2, nar_0, nar_1, nI_cl, nI_E, nI_L, nI_T, nI_m, nI_m', nI_ng, nN_lt, nN_le, nI_add, pk_mul, nI_S, nI_R4, nI_R64, nI_32, st_eq, st_k, st_j, if_true, if_false]
  · simp +decide (disch := omega) only [f_Li_isEmpty, f_Li_isEmpty_b16, a.1, a.2.1, c, jn_0, jn_1, jn_2, jn_3, jn_4, jn_5, jn_6, jn_7, jn_8, jn_9, jn_10, jn_11, jn_12, jn_13, jn_14, jn_15, jn_16, jn_20, jn_21, jn_22, jn_23, jn_24, jn_25, jn_26, jn_27, jn_28, jn_29, jn_30, jn_31, jn_32, jn_33, jn_34, jn_35, jn_36, jn_37, jn_38, jn_39, jn_40, jn_41, jn_42, jn_43, jn_44, jn_50, js_0, js_1, js_2, js_3, js_4, js_5, js_6, js_7, js_8, js_9, js_10, js_11, js_12, js_13, js_14, js_15, js_16, js_20, js_21, js_22, js_23, js_24, js_25, js_26, js_27, js_28, js_29, js_30, js_31, js_32, js_33, js_34, js_35, js_36, js_37, js_38, js_39, js_40, js_41, js_42, js_43, js_44, js_50, bd_0, bd_1, bd_2, bd_3, let_e, nz_0, nz_1, nz_n0, nz_n1, ix_n, nl_0, nl_1, nl_2, nl_3, nl_4, nl_5, nl_6, nl_7, nl_8, nl_9, nl_10, nl_11, nl_12, nl_16, nl_40, nl_64, nl_200, nl_1000, nl_m, nl_m2, nar_0, nar_1, nI_cl, nI_E, nI_L, nI_T, nI_m, nI_m', nI_ng, nN_lt, nN_le, nI_add, pk_mul, nI_S, nI_R4, nI_R64, nI_32, st_eq, st_k, st_j, if_true, if_false]
theorem k_pf {n sh : Nat} {C : mm_M} {A : mm_A} (h : Rp n sh C A) (hs : A 9 0 0 ≤ 40) {d : Nat} (hd : d < 2 * n) (h1 : A 6 d 0 < A 6 d 1) (hT : A 6 d 1 ≤ 1000000) (h7 : A 7 d (A 6 d 0) ≠ 99) (h8 : A 8 d (A 6 d 0) ≠ 99) (fr to : Nat) : CR n sh C (fun g => f_Ma_postFirst n g 0 d (nI fr) (nI to)) 0 (nI 0) (sPF A d fr to) := by
  have a := h.2.2.1 d hd
  have b := a.2.2.2 (A 6 d 0) (Nat.le_refl _) h1
  obtain ⟨C1, e1, p1⟩ := k_put h hs 0 fr to (A 6 d 0) (A 7 d (A 6 d 0)) (A 8 d (A 6 d 0))
  refine ⟨C1, fun M => ?_, p1⟩
  have e1 := e1 M
  rw [zf_n h7, zf_n h8] at e1
  have hm : A 6 d 0 % 4 < 4 := Nat.mod_lt _ (by decide)
  simp +decide (disch := omega) only [f_Ma_postFirst, f_Li_firstCopy, f_Li_firstAsker, a.1, b.1, b.2, e1, jn_0, jn_1, jn_2, jn_3, jn_4, jn_5, jn_6, jn_7, jn_8, jn_9, jn_10, jn_11, jn_12, jn_13, jn_14, jn_15, jn_16, jn_20, jn_21, jn_22, jn_23, jn_24, jn_25, jn_26, jn_27, jn_28, jn_29, jn_30, jn_31, jn_32, jn_33, jn_34, jn_35, jn_36, jn_37, jn_38, jn_39, jn_40, jn_41, jn_42, jn_43, jn_44, jn_50, js_0, js_1, js_2, js_3, js_4, js_5, js_6, js_7, js_8, js_9, js_10, js_11, js_12, js_13, js_14, js_15, js_16, js_20, js_21, js_22, js_23, js_24, js_25, js_26, js_27, js_28, js_29, js_30, js_31, js_32, js_33, js_34, js_35, js_36, js_37, js_38, js_39, js_40, js_41, js_42, js_43, js_44, js_50, bd_0, bd_1, bd_2, bd_3, let_e, nz_0, nz_1, nz_n0, nz_n1, ix_n, nl_0, nl_1, nl_2, nl_3, nl_4, nl_5, nl_6, nl_7, nl_8, nl_9, nl_10, nl_11, nl_12, nl_16, nl_40, nl_64, nl_200, nl_1000, nl_m, nl_m2, nar_0, nar_1, nI_cl, nI_E, nI_L, nI_T, nI_m, nI_m', nI_ng, nN_lt, nN_le, nI_add, pk_mul, nI_S, nI_R4, nI_R64, nI_32, st_eq, st_k, st_j, if_true, if_false]
theorem q_pf {n sh : Nat} {M : mm_M} {A : mm_A} (h : Rm n sh M A) (hn : n ≤ 12) (hs : A 9 0 0 ≤ 40) {fr to : Nat} (hf : fr < n) (ht : to < n) (h1 : A 6 (dr (pa3 sh) fr to) 0 < A 6 (dr (pa3 sh) fr to) 1) (hT : A 6 (dr (pa3 sh) fr to) 1 ≤ 1000000) (h7 : A 7 (dr (pa3 sh) fr to) (A 6 (dr (pa3 sh) fr to) 0) ≠ 99) (h8 : A 8 (dr (pa3 sh) fr to) (A 6 (dr (pa3 sh) fr to) 0) ≠ 99) : MR n sh M (fun g => f_Mo_postFirst n g 0 (nI fr) (nI to)) (nI 0) (sPF A (dr (pa3 sh) fr to) fr to) := by
  have hd := dr_lt (sh := sh) hf ht
  have hdir := q_dir h hn hf ht
  generalize dr (pa3 sh) fr to = d at *
  have a := h.2.2.1.1 d hd
  have b := a.2.2.2 (A 6 d 0) (Nat.le_refl _) h1
  obtain ⟨M1, e1, p1, p2, p3⟩ := q_put h hs 0 fr to (A 6 d 0) (A 7 d (A 6 d 0)) (A 8 d (A 6 d 0))
  refine ⟨M1, fun C => ?_, p1, p2, p3⟩
  have e1 := e1 C
  rw [zf_n h7, zf_n h8] at e1
  have hm : A 6 d 0 % 64 < 64 := Nat.mod_lt _ (by decide)
  simp +decide (disch := omega) only [f_Mo_postFirst, hdir, a.1, b.1, b.2, e1, jn_0, jn_1, jn_2, jn_3, jn_4, jn_5, jn_6, jn_7, jn_8, jn_9, jn_10, jn_11, jn_12, jn_13, jn_14, jn_15, jn_16, jn_20, jn_21, jn_22, jn_23, jn_24, jn_25, jn_26, jn_27, jn_28, jn_29, jn_30, jn_31, jn_32, jn_33, jn_34, jn_35, jn_36, jn_37, jn_38, jn_39, jn_40, jn_41, jn_42, jn_43, jn_44, jn_50, js_0, js_1, js_2, js_3, js_4, js_5, js_6, js_7, js_8, js_9, js_10, js_11, js_12, js_13, js_14, js_15, js_16, js_20, js_21, js_22, js_23, js_24, js_25, js_26, js_27, js_28, js_29, js_30, js_31, js_32, js_33, js_34, js_35, js_36, js_37, js_38, js_39, js_40, js_41, js_42, js_43, js_44, js_50, bd_0, bd_1, bd_2, bd_3, let_e, nz_0, nz_1, nz_n0, nz_n1, ix_n, nl_0, nl_1, nl_2, nl_3, nl_4, nl_5, nl_6, nl_7, nl_8, nl_9, nl_10, nl_11, nl_12, nl_16, nl_40, nl_64, nl_200, nl_1000, nl_m, nl_m2, nar_0, nar_1, nI_cl, nI_E, nI_L, nI_T, nI_m, nI_m', nI_ng, nN_lt, nN_le, nI_add, pk_mul, nI_S, nI_R4, nI_R64, nI_32, st_eq, st_k, st_j, if_true, if_false]
theorem k_send {n sh : Nat} {C : mm_M} {A : mm_A} (h : Rp n sh C A) (hn : n ≤ 12) (hs : A 9 0 0 ≤ 40) {fr to c a : Nat} (hf : fr < n) (ht : to < n) (hc : c < 3) (ha : a < n) (h01 : A 6 (dr (pa3 sh) fr to) 0 ≤ A 6 (dr (pa3 sh) fr to) 1) (hcap : A 6 (dr (pa3 sh) fr to) 1 < A 6 (dr (pa3 sh) fr to) 0 + 4) (hT : A 6 (dr (pa3 sh) fr to) 1 < 1000000) : CR n sh C (fun g => f_Ma_sendLetter n g 0 (nI fr) (nI to) (nI c) (nI a)) 0 (nI 0) (sSend sh A fr to c a) := by
  have hd := dr_lt (sh := sh) hf ht
  have hl := k_line h hn hf ht
  unfold sSend
  generalize dr (pa3 sh) fr to = d at *
  have b := h.2.2.1 d hd
  have hem := k_empty h hd (by omega) (by omega)
  have hm : A 6 d 1 % 4 < 4 := Nat.mod_lt _ (by decide)
  have p := Rp_app h hd hcap rfl rfl (rfl : nI (A 6 d 1 + 1) = nI (A 6 d 1 + 1)) (x := c) (y := a)
  have hap : ∀ M, f_Li_append n (jn C M) d (nI c) (nI a) = some (0, nI 0, jn (mm_st (mm_st (mm_st C 15 d (A 6 d 1 % 4) (nI c)) 16 d (A 6 d 1 % 4) (nI a)) 14 d 3 (nI (A 6 d 1 + 1))) M) := fun M => by
    simp +decide (disch := omega) only [f_Li_append, b.2.1, jn_0, jn_1, jn_2, jn_3, jn_4, jn_5, jn_6, jn_7, jn_8, jn_9, jn_10, jn_11, jn_12, jn_13, jn_14, jn_15, jn_16, jn_20, jn_21, jn_22, jn_23, jn_24, jn_25, jn_26, jn_27, jn_28, jn_29, jn_30, jn_31, jn_32, jn_33, jn_34, jn_35, jn_36, jn_37, jn_38, jn_39, jn_40, jn_41, jn_42, jn_43, jn_44, jn_50, js_0, js_1, js_2, js_3, js_4, js_5, js_6, js_7, js_8, js_9, js_10, js_11, js_12, js_13, js_14, js_15, js_16, js_20, js_21, js_22, js_23, js_24, js_25, js_26, js_27, js_28, js_29, js_30, js_31, js_32, js_33, js_34, js_35, js_36, js_37, js_38, js_39, js_40, js_41, js_42, js_43, js_44, js_50, bd_0, bd_1, bd_2, bd_3, let_e, nz_0, nz_1, nz_n0, nz_n1, ix_n, nl_0, nl_1, nl_2, nl_3, nl_4, nl_5, nl_6, nl_7, nl_8, nl_9, nl_10, nl_11, nl_12, nl_16, nl_40, nl_64, nl_200, nl_1000, nl_m, nl_m2, nar_0, nar_1, nI_cl, nI_E, nI_L, nI_T, nI_m, nI_m', nI_ng, nN_lt, nN_le, nI_add, pk_mul, nI_S, nI_R4, nI_R64, nI_32, st_eq, st_k, st_j, if_true, if_false]
  by_cases e : A 6 d 0 = A 6 d 1
  · rw [if_pos e]
    have g0 : sApp A d c a 6 d 0 = A 6 d 0 := by simp [sApp, as_ap]
    have g1 : sApp A d c a 6 d 1 = A 6 d 1 + 1 := by simp [sApp, as_ap]
    have g7 : sApp A d c a 7 d (A 6 d 1) = c := by simp [sApp, as_ap]
    have g8 : sApp A d c a 8 d (A 6 d 1) = a := by simp [sApp, as_ap]
    have g9 : sApp A d c a 9 0 0 = A 9 0 0 := by simp [sApp, as_ap]
    obtain ⟨C1, e1, p1⟩ := k_pf p (by rw [g9]; exact hs) hd (by rw [g0, g1]; omega) (by rw [g1]; omega) (by rw [g0, e, g7]; omega) (by rw [g0, e, g8]; omega) fr to
    refine ⟨C1, fun M => ?_, p1⟩
    have hem := hem M
    rw [if_pos e] at hem
    simp +decide (disch := omega) only [f_Ma_sendLetter, f_Ma_sendLetter_b36, hl, hem, hap, e1, jn_0, jn_1, jn_2, jn_3, jn_4, jn_5, jn_6, jn_7, jn_8, jn_9, jn_10, jn_11, jn_12, jn_13, jn_14, jn_15, jn_16, jn_20, jn_21, jn_22, jn_23, jn_24, jn_25, jn_26, jn_27, jn_28, jn_29, jn_30, jn_31, jn_32, jn_33, jn_34, jn_35, jn_36, jn_37, jn_38, jn_39, jn_40, jn_41, jn_42, jn_43, jn_44, jn_50, js_0, js_1, js_2, js_3, js_4, js_5, js_6, js_7, js_8, js_9, js_10, js_11, js_12, js_13, js_14, js_15, js_16, js_20, js_21, js_22, js_23, js_24, js_25, js_26, js_27, js_28, js_29, js_30, js_31, js_32, js_33, js_34, js_35, js_36, js_37, js_38, js_39, js_40, js_41, js_42, js_43, js_44, js_50, bd_0, bd_1, bd_2, bd_3, let_e, nz_0, nz_1, nz_n0, nz_n1, ix_n, nl_0, nl_1, nl_2, nl_3, nl_4, nl_5, nl_6, nl_7, nl_8, nl_9, nl_10, nl_11, nl_12, nl_16, nl_40, nl_64, nl_200, nl_1000, nl_m, nl_m2, nar_0, nar_1, nI_cl, nI_E, nI_L, nI_T, nI_m, nI_m', nI_ng, nN_lt, nN_le, nI_add, pk_mul, nI_S, nI_R4, nI_R64, nI_32, st_eq, st_k, st_j, if_true, if_false]
  · rw [if_neg e]
    refine ⟨_, fun M => ?_, p⟩
    have hem := hem M
    rw [if_neg e] at hem
    simp +decide (disch := omega) only [f_Ma_sendLetter, f_Ma_sendLetter_b36, hl, hem, hap, jn_0, jn_1, jn_2, jn_3, jn_4, jn_5, jn_6, jn_7, jn_8, jn_9, jn_10, jn_11, jn_12, jn_13, jn_14, jn_15, jn_16, jn_20, jn_21, jn_22, jn_23, jn_24, jn_25, jn_26, jn_27, jn_28, jn_29, jn_30, jn_31, jn_32, jn_33, jn_34, jn_35, jn_36, jn_37, jn_38, jn_39, jn_40, jn_41, jn_42, jn_43, jn_44, jn_50, js_0, js_1, js_2, js_3, js_4, js_5, js_6, js_7, js_8, js_9, js_10, js_11, js_12, js_13, js_14, js_15, js_16, js_20, js_21, js_22, js_23, js_24, js_25, js_26, js_27, js_28, js_29, js_30, js_31, js_32, js_33, js_34, js_35, js_36, js_37, js_38, js_39, js_40, js_41, js_42, js_43, js_44, js_50, bd_0, bd_1, bd_2, bd_3, let_e, nz_0, nz_1, nz_n0, nz_n1, ix_n, nl_0, nl_1, nl_2, nl_3, nl_4, nl_5, nl_6, nl_7, nl_8, nl_9, nl_10, nl_11, nl_12, nl_16, nl_40, nl_64, nl_200, nl_1000, nl_m, nl_m2, nar_0, nar_1, nI_cl, nI_E, nI_L, nI_T, nI_m, nI_m', nI_ng, nN_lt, nN_le, nI_add, pk_mul, nI_S, nI_R4, nI_R64, nI_32, st_eq, st_k, st_j, if_true, if_false]
theorem q_send {n sh : Nat} {M : mm_M} {A : mm_A} (h : Rm n sh M A) (hn : n ≤ 12) (hs : A 9 0 0 ≤ 40) {fr to c a : Nat} (hf : fr < n) (ht : to < n) (hc : c < 3) (ha : a < n) (h01 : A 6 (dr (pa3 sh) fr to) 0 ≤ A 6 (dr (pa3 sh) fr to) 1) (hcap : A 6 (dr (pa3 sh) fr to) 1 < A 6 (dr (pa3 sh) fr to) 0 + 4) (hT : A 6 (dr (pa3 sh) fr to) 1 < 1000000) : MR n sh M (fun g => f_Mo_write n g 0 (nI fr) (nI to) (nI c) (nI a)) (nI 0) (sSend sh A fr to c a) := by
  have hd := dr_lt (sh := sh) hf ht
  have hl := q_dir h hn hf ht
  have hd' : dr (pa3 sh) fr to = dr (pa3 sh) fr to := rfl
  unfold sSend
  generalize hq : dr (pa3 sh) fr to = d at *
  have b := h.2.2.1.1 d hd
  have hm : A 6 d 1 % 64 < 64 := Nat.mod_lt _ (by decide)
  have p := Rm_app h hd hcap rfl rfl (rfl : nI (A 6 d 1 + 1) = nI (A 6 d 1 + 1)) (x := c) (y := a)
  by_cases e : A 6 d 0 = A 6 d 1
  · rw [if_pos e]
    have g0 : sApp A d c a 6 d 0 = A 6 d 0 := by simp [sApp, as_ap]
    have g1 : sApp A d c a 6 d 1 = A 6 d 1 + 1 := by simp [sApp, as_ap]
    have g7 : sApp A d c a 7 d (A 6 d 1) = c := by simp [sApp, as_ap]
    have g8 : sApp A d c a 8 d (A 6 d 1) = a := by simp [sApp, as_ap]
    have g9 : sApp A d c a 9 0 0 = A 9 0 0 := by simp [sApp, as_ap]
    obtain ⟨M1, e1, p1, p2, p3⟩ := q_pf p hn (by rw [g9]; exact hs) hf ht (by rw [hq, g0, g1]; omega) (by rw [hq, g1]; omega) (by rw [hq, g0, e, g7]; omega) (by rw [hq, g0, e, g8]; omega)
    rw [hq] at p1
    refine ⟨M1, fun C => ?_, p1, by rw [p2, st_k (by decide), st_k (by decide), st_k (by decide)], by rw [p3, st_k (by decide), st_k (by decide), st_k (by decide)]⟩
    simp +decide (disch := omega) only [f_Mo_write, f_Mo_write_b79, hl, b.1, b.2.1, e, e1, jn_0, jn_1, jn_2, jn_3, jn_4, jn_5, jn_6, jn_7, jn_8, jn_9, jn_10, jn_11, jn_12, jn_13, jn_14, jn_15, jn_16, jn_20, jn_21, jn_22, jn_23, jn_24, jn_25, jn_26, jn_27, jn_28, jn_29, jn_30, jn_31, jn_32, jn_33, jn_34, jn_35, jn_36, jn_37, jn_38, jn_39, jn_40, jn_41, jn_42, jn_43, jn_44, jn_50, js_0, js_1, js_2, js_3, js_4, js_5, js_6, js_7, js_8, js_9, js_10, js_11, js_12, js_13, js_14, js_15, js_16, js_20, js_21, js_22, js_23, js_24, js_25, js_26, js_27, js_28, js_29, js_30, js_31, js_32, js_33, js_34, js_35, js_36, js_37, js_38, js_39, js_40, js_41, js_42, js_43, js_44, js_50, bd_0, bd_1, bd_2, bd_3, let_e, nz_0, nz_1, nz_n0, nz_n1, ix_n, nl_0, nl_1, nl_2, nl_3, nl_4, nl_5, nl_6, nl_7, nl_8, nl_9, nl_10, nl_11, nl_12, nl_16, nl_40, nl_64, nl_200, nl_1000, nl_m, nl_m2, nar_0, nar_1, nI_cl, nI_E, nI_L, nI_T, nI_m, nI_m', nI_ng, nN_lt, nN_le, nI_add, pk_mul, nI_S, nI_R4, nI_R64, nI_32, st_eq, st_k, st_j, if_true, if_false]
  · rw [if_neg e]
    refine ⟨_, fun C => ?_, p, by rw [st_k (by decide), st_k (by decide), st_k (by decide)], by rw [st_k (by decide), st_k (by decide), st_k (by decide)]⟩
    have e2 : ¬ A 6 d 1 + 1 = A 6 d 0 + 1 := by omega
    simp +decide (disch := omega) only [f_Mo_write, f_Mo_write_b79, hl, b.1, b.2.1, e2, jn_0, jn_1, jn_2, jn_3, jn_4, jn_5, jn_6, jn_7, jn_8, jn_9, jn_10, jn_11, jn_12, jn_13, jn_14, jn_15, jn_16, jn_20, jn_21, jn_22, jn_23, jn_24, jn_25, jn_26, jn_27, jn_28, jn_29, jn_30, jn_31, jn_32, jn_33, jn_34, jn_35, jn_36, jn_37, jn_38, jn_39, jn_40, jn_41, jn_42, jn_43, jn_44, jn_50, js_0, js_1, js_2, js_3, js_4, js_5, js_6, js_7, js_8, js_9, js_10, js_11, js_12, js_13, js_14, js_15, js_16, js_20, js_21, js_22, js_23, js_24, js_25, js_26, js_27, js_28, js_29, js_30, js_31, js_32, js_33, js_34, js_35, js_36, js_37, js_38, js_39, js_40, js_41, js_42, js_43, js_44, js_50, bd_0, bd_1, bd_2, bd_3, let_e, nz_0, nz_1, nz_n0, nz_n1, ix_n, nl_0, nl_1, nl_2, nl_3, nl_4, nl_5, nl_6, nl_7, nl_8, nl_9, nl_10, nl_11, nl_12, nl_16, nl_40, nl_64, nl_200, nl_1000, nl_m, nl_m2, nar_0, nar_1, nI_cl, nI_E, nI_L, nI_T, nI_m, nI_m', nI_ng, nN_lt, nN_le, nI_add, pk_mul, nI_S, nI_R4, nI_R64, nI_32, st_eq, st_k, st_j, if_true, if_false]

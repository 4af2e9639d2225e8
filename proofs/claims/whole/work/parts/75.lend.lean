theorem as_comm (A : mm_A) {f i j v g k m w : Nat} (h : f ≠ g) : as (as A f i j v) g k m w = as (as A g k m w) f i j v := by
  funext a b c
  simp only [as_ap]
  by_cases e : a = g ∧ b = k ∧ c = m
  · rw [if_pos e, if_neg (by omega), if_pos e]
  · rw [if_neg e, if_neg e]
theorem as_as (A : mm_A) (f i j v w : Nat) : as (as A f i j v) f i j w = as A f i j w := by
  funext a b c
  simp only [as_ap]
  by_cases e : a = f ∧ b = i ∧ c = j
  · rw [if_pos e, if_pos e]
  · rw [if_neg e, if_neg e, if_neg e]
theorem sSh_as (A : mm_A) {f c l v j : Nat} (hf : f < 20) : sSh (as A f c l v) c l j = as (sSh A c l j) f c l v := by
  funext a b d
  rw [as_ap]
  unfold sSh
  simp only [as_ap]
  by_cases e : a = f ∧ b = c ∧ d = l
  · rw [if_neg (by omega), if_pos e, if_pos e]
  · rw [if_neg e, if_neg e]
    by_cases e2 : b = c ∧ d = l ∧ 20 ≤ a ∧ a < 20 + j
    · rw [if_pos e2, if_pos e2, if_neg (by omega)]
    · rw [if_neg e2, if_neg e2]
theorem k_rs {n sh : Nat} {C : mm_M} {A : mm_A} (h : Rp n sh C A) {c l s : Nat} (hc : c < 3) (hl : l < n) (hs : s < 5) (hb : A 4 c l ≤ 4) (M : mm_M) : f_LA_requireState n (jn C M) (12 * c + l) (nI s) = some (if A 4 c l = s then 0 else 3, nI 0, jn C M) := by
  have r := (h.1 c l hc hl).2.2.2.1
  by_cases e : A 4 c l = s
  · rw [if_pos e]
    simp +decide (disch := omega) only [f_LA_requireState, r, e, jn_0, jn_1, jn_2, jn_3, jn_4, jn_5, jn_6, jn_7, jn_8, jn_9, jn_10, jn_11, jn_12, jn_13, jn_14, jn_15, jn_16, jn_20, jn_21, jn_22, jn_23, jn_24, jn_25, jn_26, jn_27, jn_28, jn_29, jn_30, jn_31, jn_32, jn_33, jn_34, jn_35, jn_36, jn_37, jn_38, jn_39, jn_40, jn_41, jn_42, jn_43, jn_44, jn_50, js_0, js_1, js_2, js_3, js_4, js_5, js_6, js_7, js_8, js_9, js_10, js_11, js_12, js_13, js_14, js_15, js_16, js_20, js_21, js_22, js_23, js_24, js_25, js_26, js_27, js_28, js_29, js_30, js_31, js_32, js_33, js_34, js_35, js_36, js_37, js_38, js_39, js_40, js_41, js_42, js_43, js_44, js_50, bd_0, bd_1, bd_2, bd_3, let_e, nz_0, nz_1, nz_n0, nz_n1, ix_n, nl_0, nl_1, nl_2, nl_3, nl_4, nl_5, nl_6, nl_7, nl_8, nl_9, nl_10, nl_11, nl_12, nl_16, nl_40, nl_64, nl_200, nl_1000, nl_m, nl_m2, nar_0, nar_1, nI_cl, nI_E, nI_L, nI_T, nI_m, nI_m', nI_ng, nN_lt, nN_le, nI_add, pk_mul, nI_S, nI_R4, nI_R64, nI_32, st_eq, st_k, st_j, if_true, if_false, Nat.not_lt_zero, Nat.zero_le]
  · rw [if_neg e]
    simp +decide (disch := omega) only [f_LA_requireState, r, e, jn_0, jn_1, jn_2, jn_3, jn_4, jn_5, jn_6, jn_7, jn_8, jn_9, jn_10, jn_11, jn_12, jn_13, jn_14, jn_15, jn_16, jn_20, jn_21, jn_22, jn_23, jn_24, jn_25, jn_26, jn_27, jn_28, jn_29, jn_30, jn_31, jn_32, jn_33, jn_34, jn_35, jn_36, jn_37, jn_38, jn_39, jn_40, jn_41, jn_42, jn_43, jn_44, jn_50, js_0, js_1, js_2, js_3, js_4, js_5, js_6, js_7, js_8, js_9, js_10, js_11, js_12, js_13, js_14, js_15, js_16, js_20, js_21, js_22, js_23, js_24, js_25, js_26, js_27, js_28, js_29, js_30, js_31, js_32, js_33, js_34, js_35, js_36, js_37, js_38, js_39, js_40, js_41, js_42, js_43, js_44, js_50, bd_0, bd_1, bd_2, bd_3, let_e, nz_0, nz_1, nz_n0, nz_n1, ix_n, nl_0, nl_1, nl_2, nl_3, nl_4, nl_5, nl_6, nl_7, nl_8, nl_9, nl_10, nl_11, nl_12, nl_16, nl_40, nl_64, nl_200, nl_1000, nl_m, nl_m2, nar_0, nar_1, nI_cl, nI_E, nI_L, nI_T, nI_m, nI_m', nI_ng, nN_lt, nN_le, nI_add, pk_mul, nI_S, nI_R4, nI_R64, nI_32, st_eq, st_k, st_j, if_true, if_false, Nat.not_lt_zero, Nat.zero_le]
theorem ag_lend {n sh T : Nat} {A : mm_A} {C : mm_M} (hn : n ≤ 12) (hR : Rp n sh C A) (hP : Pr n sh T A) (x y : Int32) : AG n sh T A C (fun g => f_LA_lend n g 0 x y) (fun g => f_Mo_lend n g 0 x y) [0, 1, 3] th1 := by
  obtain ⟨F, hF⟩ : ∃ F, F = 4096 := ⟨4096, rfl⟩
  have u0 : ∀ (g : mm_M) (x4 t1 t2 : Int32), f_Mo_lend_b70 n g 0 x4 0 t1 t2 = mm_bd (f_Mo_refused n g 0 t1 t2 0) 0 (fun z1 g2 => (if z1 = 0 then mm_ix (4 * x4) 144 (mm_ix x4 36 (mm_let (mm_st g2 27 0 x4.toNatClampNeg (g2 29 0 (4 * x4).toNatClampNeg)) (fun g4 => mm_ix x4 36 (mm_ix x4 36 (mm_let (mm_st g4 28 0 x4.toNatClampNeg ((g4 28 0 x4.toNatClampNeg) - 1)) (fun g6 => f_Mo_lend_l109 n F g6 0 x4 0)))))) else some (0, 0, g2))) := fun g x4 t1 t2 => by
    rw [hF]
    unfold f_Mo_lend_b70
    rfl
  rcases tri n (by omega) x with hb | ⟨l, hl, rfl⟩
  · refine AG_same hR hP 1 (by simp) (v := nI 0) (v' := nI 0) (fun M => ?_) (fun M hM => ?_) (fun _ => rfl)
    · simp +decide (disch := omega) only [f_LA_lend, k_rlb hR hb, jn_0, jn_1, jn_2, jn_3, jn_4, jn_5, jn_6, jn_7, jn_8, jn_9, jn_10, jn_11, jn_12, jn_13, jn_14, jn_15, jn_16, jn_20, jn_21, jn_22, jn_23, jn_24, jn_25, jn_26, jn_27, jn_28, jn_29, jn_30, jn_31, jn_32, jn_33, jn_34, jn_35, jn_36, jn_37, jn_38, jn_39, jn_40, jn_41, jn_42, jn_43, jn_44, jn_50, js_0, js_1, js_2, js_3, js_4, js_5, js_6, js_7, js_8, js_9, js_10, js_11, js_12, js_13, js_14, js_15, js_16, js_20, js_21, js_22, js_23, js_24, js_25, js_26, js_27, js_28, js_29, js_30, js_31, js_32, js_33, js_34, js_35, js_36, js_37, js_38, js_39, js_40, js_41, js_42, js_43, js_44, js_50, bd_0, bd_1, bd_2, bd_3, let_e, nz_0, nz_1, nz_n0, nz_n1, ix_n, nl_0, nl_1, nl_2, nl_3, nl_4, nl_5, nl_6, nl_7, nl_8, nl_9, nl_10, nl_11, nl_12, nl_16, nl_40, nl_64, nl_200, nl_1000, nl_m, nl_m2, nar_0, nar_1, nI_cl, nI_E, nI_L, nI_T, nI_m, nI_m', nI_ng, nN_lt, nN_le, nI_add, pk_mul, nI_S, nI_R4, nI_R64, nI_32, st_eq, st_k, st_j, if_true, if_false, Nat.not_lt_zero, Nat.zero_le]
    · simp +decide (disch := omega) only [f_Mo_lend, f_Mo_lend_b14, f_Mo_lend_b28, f_Mo_lend_b65, f_Mo_lend_b69, u0, q_ipl hM hb, q_r1, th1, jn_0, jn_1, jn_2, jn_3, jn_4, jn_5, jn_6, jn_7, jn_8, jn_9, jn_10, jn_11, jn_12, jn_13, jn_14, jn_15, jn_16, jn_20, jn_21, jn_22, jn_23, jn_24, jn_25, jn_26, jn_27, jn_28, jn_29, jn_30, jn_31, jn_32, jn_33, jn_34, jn_35, jn_36, jn_37, jn_38, jn_39, jn_40, jn_41, jn_42, jn_43, jn_44, jn_50, js_0, js_1, js_2, js_3, js_4, js_5, js_6, js_7, js_8, js_9, js_10, js_11, js_12, js_13, js_14, js_15, js_16, js_20, js_21, js_22, js_23, js_24, js_25, js_26, js_27, js_28, js_29, js_30, js_31, js_32, js_33, js_34, js_35, js_36, js_37, js_38, js_39, js_40, js_41, js_42, js_43, js_44, js_50, bd_0, bd_1, bd_2, bd_3, let_e, nz_0, nz_1, nz_n0, nz_n1, ix_n, nl_0, nl_1, nl_2, nl_3, nl_4, nl_5, nl_6, nl_7, nl_8, nl_9, nl_10, nl_11, nl_12, nl_16, nl_40, nl_64, nl_200, nl_1000, nl_m, nl_m2, nar_0, nar_1, nI_cl, nI_E, nI_L, nI_T, nI_m, nI_m', nI_ng, nN_lt, nN_le, nI_add, pk_mul, nI_S, nI_R4, nI_R64, nI_32, st_eq, st_k, st_j, if_true, if_false, Nat.not_lt_zero, Nat.zero_le]
  rcases tri 3 (by decide) y with hb | ⟨c, hc, rfl⟩
  · refine AG_same hR hP 1 (by simp) (v := nI 0) (v' := nI 0) (fun M => ?_) (fun M hM => ?_) (fun _ => rfl)
    · simp +decide (disch := omega) only [f_LA_lend, k_rl hR hn hl, k_rcb hb, jn_0, jn_1, jn_2, jn_3, jn_4, jn_5, jn_6, jn_7, jn_8, jn_9, jn_10, jn_11, jn_12, jn_13, jn_14, jn_15, jn_16, jn_20, jn_21, jn_22, jn_23, jn_24, jn_25, jn_26, jn_27, jn_28, jn_29, jn_30, jn_31, jn_32, jn_33, jn_34, jn_35, jn_36, jn_37, jn_38, jn_39, jn_40, jn_41, jn_42, jn_43, jn_44, jn_50, js_0, js_1, js_2, js_3, js_4, js_5, js_6, js_7, js_8, js_9, js_10, js_11, js_12, js_13, js_14, js_15, js_16, js_20, js_21, js_22, js_23, js_24, js_25, js_26, js_27, js_28, js_29, js_30, js_31, js_32, js_33, js_34, js_35, js_36, js_37, js_38, js_39, js_40, js_41, js_42, js_43, js_44, js_50, bd_0, bd_1, bd_2, bd_3, let_e, nz_0, nz_1, nz_n0, nz_n1, ix_n, nl_0, nl_1, nl_2, nl_3, nl_4, nl_5, nl_6, nl_7, nl_8, nl_9, nl_10, nl_11, nl_12, nl_16, nl_40, nl_64, nl_200, nl_1000, nl_m, nl_m2, nar_0, nar_1, nI_cl, nI_E, nI_L, nI_T, nI_m, nI_m', nI_ng, nN_lt, nN_le, nI_add, pk_mul, nI_S, nI_R4, nI_R64, nI_32, st_eq, st_k, st_j, if_true, if_false, Nat.not_lt_zero, Nat.zero_le]
    · simp +decide (disch := omega) only [f_Mo_lend, f_Mo_lend_b14, f_Mo_lend_b28, f_Mo_lend_b65, f_Mo_lend_b69, u0, q_ipc hM hn hl hb, q_r1, th1, jn_0, jn_1, jn_2, jn_3, jn_4, jn_5, jn_6, jn_7, jn_8, jn_9, jn_10, jn_11, jn_12, jn_13, jn_14, jn_15, jn_16, jn_20, jn_21, jn_22, jn_23, jn_24, jn_25, jn_26, jn_27, jn_28, jn_29, jn_30, jn_31, jn_32, jn_33, jn_34, jn_35, jn_36, jn_37, jn_38, jn_39, jn_40, jn_41, jn_42, jn_43, jn_44, jn_50, js_0, js_1, js_2, js_3, js_4, js_5, js_6, js_7, js_8, js_9, js_10, js_11, js_12, js_13, js_14, js_15, js_16, js_20, js_21, js_22, js_23, js_24, js_25, js_26, js_27, js_28, js_29, js_30, js_31, js_32, js_33, js_34, js_35, js_36, js_37, js_38, js_39, js_40, js_41, js_42, js_43, js_44, js_50, bd_0, bd_1, bd_2, bd_3, let_e, nz_0, nz_1, nz_n0, nz_n1, ix_n, nl_0, nl_1, nl_2, nl_3, nl_4, nl_5, nl_6, nl_7, nl_8, nl_9, nl_10, nl_11, nl_12, nl_16, nl_40, nl_64, nl_200, nl_1000, nl_m, nl_m2, nar_0, nar_1, nI_cl, nI_E, nI_L, nI_T, nI_m, nI_m', nI_ng, nN_lt, nN_le, nI_add, pk_mul, nI_S, nI_R4, nI_R64, nI_32, st_eq, st_k, st_j, if_true, if_false, Nat.not_lt_zero, Nat.zero_le]
  have a := hR.1 c l hc hl
  have d4 := hP.1 c l hc hl
  by_cases cd : A 11 l 0 = 1
  · refine AG_same hR hP 3 (by simp) (v := nI 0) (v' := nI 0) (fun M => ?_) (fun M hM => ?_) (fun _ => rfl)
    · simp +decide (disch := omega) only [f_LA_lend, k_rl hR hn hl, k_rc hc, k_upb hR hn hl cd, jn_0, jn_1, jn_2, jn_3, jn_4, jn_5, jn_6, jn_7, jn_8, jn_9, jn_10, jn_11, jn_12, jn_13, jn_14, jn_15, jn_16, jn_20, jn_21, jn_22, jn_23, jn_24, jn_25, jn_26, jn_27, jn_28, jn_29, jn_30, jn_31, jn_32, jn_33, jn_34, jn_35, jn_36, jn_37, jn_38, jn_39, jn_40, jn_41, jn_42, jn_43, jn_44, jn_50, js_0, js_1, js_2, js_3, js_4, js_5, js_6, js_7, js_8, js_9, js_10, js_11, js_12, js_13, js_14, js_15, js_16, js_20, js_21, js_22, js_23, js_24, js_25, js_26, js_27, js_28, js_29, js_30, js_31, js_32, js_33, js_34, js_35, js_36, js_37, js_38, js_39, js_40, js_41, js_42, js_43, js_44, js_50, bd_0, bd_1, bd_2, bd_3, let_e, nz_0, nz_1, nz_n0, nz_n1, ix_n, nl_0, nl_1, nl_2, nl_3, nl_4, nl_5, nl_6, nl_7, nl_8, nl_9, nl_10, nl_11, nl_12, nl_16, nl_40, nl_64, nl_200, nl_1000, nl_m, nl_m2, nar_0, nar_1, nI_cl, nI_E, nI_L, nI_T, nI_m, nI_m', nI_ng, nN_lt, nN_le, nI_add, pk_mul, nI_S, nI_R4, nI_R64, nI_32, st_eq, st_k, st_j, if_true, if_false, Nat.not_lt_zero, Nat.zero_le]
    · have b := hM.2.2.2.2.1 l hl
      simp +decide (disch := omega) only [f_Mo_lend, f_Mo_lend_b14, f_Mo_lend_b28, f_Mo_lend_b65, f_Mo_lend_b69, u0, q_ip hM hn hl hc, f_Mo_at, b, cd, q_r2, th1, jn_0, jn_1, jn_2, jn_3, jn_4, jn_5, jn_6, jn_7, jn_8, jn_9, jn_10, jn_11, jn_12, jn_13, jn_14, jn_15, jn_16, jn_20, jn_21, jn_22, jn_23, jn_24, jn_25, jn_26, jn_27, jn_28, jn_29, jn_30, jn_31, jn_32, jn_33, jn_34, jn_35, jn_36, jn_37, jn_38, jn_39, jn_40, jn_41, jn_42, jn_43, jn_44, jn_50, js_0, js_1, js_2, js_3, js_4, js_5, js_6, js_7, js_8, js_9, js_10, js_11, js_12, js_13, js_14, js_15, js_16, js_20, js_21, js_22, js_23, js_24, js_25, js_26, js_27, js_28, js_29, js_30, js_31, js_32, js_33, js_34, js_35, js_36, js_37, js_38, js_39, js_40, js_41, js_42, js_43, js_44, js_50, bd_0, bd_1, bd_2, bd_3, let_e, nz_0, nz_1, nz_n0, nz_n1, ix_n, nl_0, nl_1, nl_2, nl_3, nl_4, nl_5, nl_6, nl_7, nl_8, nl_9, nl_10, nl_11, nl_12, nl_16, nl_40, nl_64, nl_200, nl_1000, nl_m, nl_m2, nar_0, nar_1, nI_cl, nI_E, nI_L, nI_T, nI_m, nI_m', nI_ng, nN_lt, nN_le, nI_add, pk_mul, nI_S, nI_R4, nI_R64, nI_32, st_eq, st_k, st_j, if_true, if_false, Nat.not_lt_zero, Nat.zero_le]
  have c0 : A 11 l 0 = 0 := by
    have := hP.2.2.2.2 l hl
    omega
  by_cases e2 : A 4 c l = 2
  · have h5 : A 5 c 0 ≠ 99 := fun q => by
      have := ((hP.2.1 c hc).2.2.1 q).2 l hl
      omega
    have hq := d4.2.2 (Or.inr e2)
    have hA : A 1 c l = A 1 c l := rfl
    generalize hqq : A 1 c l = q at hA
    have aq := a.2.2.2.2.2 0 (by omega)
    have a1 := a.1
    rw [hqq] at a1 hq
    obtain ⟨C1, e1, p1⟩ := k_deql (A := A) hn hc hl hq (by omega) hqq (nI (A (20 + 0) c l)) 4096 0 C (by omega) (by omega) (by rw [sSh_0]; exact hR)
    have er : ∀ M, f_LA_requireState n (jn C M) (12 * c + l) (nI 2) = some (0, nI 0, jn C M) := fun M => by
      rw [k_rs hR hc hl (by omega) d4.2.1, if_pos e2]
    have hq0 : ¬ q ≤ 0 := by omega
    have edq : ∀ M, f_De_dequeue n (jn C M) (12 * c + l) = some (0, nI (A 20 c l), jn C1 M) := fun M => by
      have eqa : f_De_queuedAt n (jn C M) (12 * c + l) 0 = some (0, nI (A (20 + 0) c l), jn C M) := by
        simp +decide (disch := omega) only [f_De_queuedAt_b22, f_De_queuedAt_b21, f_De_queuedAt, a1, aq, hq0, jn_0, jn_1, jn_2, jn_3, jn_4, jn_5, jn_6, jn_7, jn_8, jn_9, jn_10, jn_11, jn_12, jn_13, jn_14, jn_15, jn_16, jn_20, jn_21, jn_22, jn_23, jn_24, jn_25, jn_26, jn_27, jn_28, jn_29, jn_30, jn_31, jn_32, jn_33, jn_34, jn_35, jn_36, jn_37, jn_38, jn_39, jn_40, jn_41, jn_42, jn_43, jn_44, jn_50, js_0, js_1, js_2, js_3, js_4, js_5, js_6, js_7, js_8, js_9, js_10, js_11, js_12, js_13, js_14, js_15, js_16, js_20, js_21, js_22, js_23, js_24, js_25, js_26, js_27, js_28, js_29, js_30, js_31, js_32, js_33, js_34, js_35, js_36, js_37, js_38, js_39, js_40, js_41, js_42, js_43, js_44, js_50, bd_0, bd_1, bd_2, bd_3, let_e, nz_0, nz_1, nz_n0, nz_n1, ix_n, nl_0, nl_1, nl_2, nl_3, nl_4, nl_5, nl_6, nl_7, nl_8, nl_9, nl_10, nl_11, nl_12, nl_16, nl_40, nl_64, nl_200, nl_1000, nl_m, nl_m2, nar_0, nar_1, nI_cl, nI_E, nI_L, nI_T, nI_m, nI_m', nI_ng, nN_lt, nN_le, nI_add, pk_mul, nI_S, nI_R4, nI_R64, nI_32, st_eq, st_k, st_j, if_true, if_false, Nat.not_lt_zero, Nat.zero_le]
      unfold f_De_dequeue
      rw [eqa, bd_0]
      exact e1 M
    refine ⟨0, nI (A 20 c l), mm_st (mm_st C1 8 (12 * c + l) 5 (nI (A 20 c l))) 8 (12 * c + l) 4 (nI 3), sLend A c l, by simp, fun M => ?_, ?_, ?_, fun M hM => ?_⟩
    · simp +decide (disch := omega) only [f_LA_lend, k_rl hR hn hl, k_rc hc, k_up hR hn hl c0, er, edq, jn_0, jn_1, jn_2, jn_3, jn_4, jn_5, jn_6, jn_7, jn_8, jn_9, jn_10, jn_11, jn_12, jn_13, jn_14, jn_15, jn_16, jn_20, jn_21, jn_22, jn_23, jn_24, jn_25, jn_26, jn_27, jn_28, jn_29, jn_30, jn_31, jn_32, jn_33, jn_34, jn_35, jn_36, jn_37, jn_38, jn_39, jn_40, jn_41, jn_42, jn_43, jn_44, jn_50, js_0, js_1, js_2, js_3, js_4, js_5, js_6, js_7, js_8, js_9, js_10, js_11, js_12, js_13, js_14, js_15, js_16, js_20, js_21, js_22, js_23, js_24, js_25, js_26, js_27, js_28, js_29, js_30, js_31, js_32, js_33, js_34, js_35, js_36, js_37, js_38, js_39, js_40, js_41, js_42, js_43, js_44, js_50, bd_0, bd_1, bd_2, bd_3, let_e, nz_0, nz_1, nz_n0, nz_n1, ix_n, nl_0, nl_1, nl_2, nl_3, nl_4, nl_5, nl_6, nl_7, nl_8, nl_9, nl_10, nl_11, nl_12, nl_16, nl_40, nl_64, nl_200, nl_1000, nl_m, nl_m2, nar_0, nar_1, nI_cl, nI_E, nI_L, nI_T, nI_m, nI_m', nI_ng, nN_lt, nN_le, nI_add, pk_mul, nI_S, nI_R4, nI_R64, nI_32, st_eq, st_k, st_j, if_true, if_false, Nat.not_lt_zero, Nat.zero_le]
    · unfold sLend
      rw [hqq]
      exact Rp_st (Rp_bo p1 hn hc hl rfl) hn hc hl rfl
    · unfold sLend
      rw [hqq, as_comm _ (show 13 ≠ 4 by decide), as_comm _ (show 1 ≠ 4 by decide)]
      refine Pr_up (Pr_any (Pr_q (Pr_st (Pr_sh hP c l (q - 1)) hc hl ?_ (by omega) (by omega) (fun w => by omega)) (by omega) ?_) (by omega)) (Nat.le_succ T)
      · rw [sSh_lo _ _ _ _ (by decide)]
        omega
      · rw [as_e]
        omega
    · have b := hM.2.2.2.2.1 l hl
      have b2 := hM.1 c l hc hl
      have b3 := (hM.2.1 c hc).2.2.2.1
      have b1 := b2.1
      rw [hqq] at b1
      rw [if_neg h5] at b3
      have bq := b2.2.2.2.2 0 (by omega)
      simp only [Nat.add_zero] at bq
      have pm := Rm_qd (Rm_bo (Rm_th (v := nI 0) hM) hn hc hl (v := nI (A 20 c l)) rfl) hn hc hl (v := nI (q - 1)) (x := q - 1) rfl
      obtain ⟨M1, f1, r1, r2, r3⟩ := q_lendl (sh := sh) (A := as (as A 13 c l (A 20 c l)) 1 c l (q - 1)) hn hc hl (q := q - 1) (by omega) (as_e _ _ _ _ _) 4096 0 _ (by omega) (by omega) (by rw [sSh_0]; exact pm)
      refine ⟨nI (A 20 c l), M1, ?_, ?_, ?_, ?_, fun _ => rfl⟩
      · have f1 := f1
        rw [as_f (show 13 ≠ 1 by decide), as_e] at f1
        have e4 : 4 * (12 * c + l) < 144 := by omega
        have u : f_Mo_lend n (jn (mm_st (mm_st C1 8 (12 * c + l) 5 (nI (A 20 c l))) 8 (12 * c + l) 4 (nI 3)) M) 0 (nI l) (nI c) = f_Mo_lend_l109 n F (jn (mm_st (mm_st C1 8 (12 * c + l) 5 (nI (A 20 c l))) 8 (12 * c + l) 4 (nI 3)) (mm_st (mm_st (mm_st M 20 0 0 (nI 0)) 27 0 (12 * c + l) (nI (A 20 c l))) 28 0 (12 * c + l) (nI (q - 1)))) 0 (nI (12 * c + l)) (nI 0) := by
          clear hF
          simp +decide (disch := omega) only [f_Mo_lend, f_Mo_lend_b14, f_Mo_lend_b28, f_Mo_lend_b65, f_Mo_lend_b69, u0, q_ip hM hn hl hc, q_r0, f_Mo_at, b, c0, b3, b2.2.2.1, e2, bq, b1, jn_0, jn_1, jn_2, jn_3, jn_4, jn_5, jn_6, jn_7, jn_8, jn_9, jn_10, jn_11, jn_12, jn_13, jn_14, jn_15, jn_16, jn_20, jn_21, jn_22, jn_23, jn_24, jn_25, jn_26, jn_27, jn_28, jn_29, jn_30, jn_31, jn_32, jn_33, jn_34, jn_35, jn_36, jn_37, jn_38, jn_39, jn_40, jn_41, jn_42, jn_43, jn_44, jn_50, js_0, js_1, js_2, js_3, js_4, js_5, js_6, js_7, js_8, js_9, js_10, js_11, js_12, js_13, js_14, js_15, js_16, js_20, js_21, js_22, js_23, js_24, js_25, js_26, js_27, js_28, js_29, js_30, js_31, js_32, js_33, js_34, js_35, js_36, js_37, js_38, js_39, js_40, js_41, js_42, js_43, js_44, js_50, bd_0, bd_1, bd_2, bd_3, let_e, nz_0, nz_1, nz_n0, nz_n1, ix_n, nl_0, nl_1, nl_2, nl_3, nl_4, nl_5, nl_6, nl_7, nl_8, nl_9, nl_10, nl_11, nl_12, nl_16, nl_40, nl_64, nl_200, nl_1000, nl_m, nl_m2, nar_0, nar_1, nI_cl, nI_E, nI_L, nI_T, nI_m, nI_m', nI_ng, nN_lt, nN_le, nI_add, pk_mul, nI_S, nI_R4, nI_R64, nI_32, st_eq, st_k, st_j, if_true, if_false, Nat.not_lt_zero, Nat.zero_le]
        show f_Mo_lend n (jn _ M) 0 (nI l) (nI c) = _
        rw [u, hF]
        exact f1 _
      · have e : sLend A c l = as (sSh (as (as A 13 c l (A 20 c l)) 1 c l (q - 1)) c l (q - 1)) 4 c l 3 := by
          unfold sLend
          rw [hqq, sSh_as _ (by decide), sSh_as _ (by decide), as_comm _ (show 1 ≠ 13 by decide)]
        rw [e]
        exact r1
      · rw [r2, st_k (by decide), st_k (by decide), st_k (by decide)]
      · rw [r3, st_k (by decide), st_k (by decide), st_eq]
        rfl
  · refine AG_same hR hP 3 (by simp) (v := nI 0) (v' := nI 0) (fun M => ?_) (fun M hM => ?_) (fun _ => rfl)
    · have er : f_LA_requireState n (jn C M) (12 * c + l) (nI 2) = some (3, nI 0, jn C M) := by
        rw [k_rs hR hc hl (by omega) d4.2.1, if_neg e2]
      simp +decide (disch := omega) only [f_LA_lend, k_rl hR hn hl, k_rc hc, k_up hR hn hl c0, er, jn_0, jn_1, jn_2, jn_3, jn_4, jn_5, jn_6, jn_7, jn_8, jn_9, jn_10, jn_11, jn_12, jn_13, jn_14, jn_15, jn_16, jn_20, jn_21, jn_22, jn_23, jn_24, jn_25, jn_26, jn_27, jn_28, jn_29, jn_30, jn_31, jn_32, jn_33, jn_34, jn_35, jn_36, jn_37, jn_38, jn_39, jn_40, jn_41, jn_42, jn_43, jn_44, jn_50, js_0, js_1, js_2, js_3, js_4, js_5, js_6, js_7, js_8, js_9, js_10, js_11, js_12, js_13, js_14, js_15, js_16, js_20, js_21, js_22, js_23, js_24, js_25, js_26, js_27, js_28, js_29, js_30, js_31, js_32, js_33, js_34, js_35, js_36, js_37, js_38, js_39, js_40, js_41, js_42, js_43, js_44, js_50, bd_0, bd_1, bd_2, bd_3, let_e, nz_0, nz_1, nz_n0, nz_n1, ix_n, nl_0, nl_1, nl_2, nl_3, nl_4, nl_5, nl_6, nl_7, nl_8, nl_9, nl_10, nl_11, nl_12, nl_16, nl_40, nl_64, nl_200, nl_1000, nl_m, nl_m2, nar_0, nar_1, nI_cl, nI_E, nI_L, nI_T, nI_m, nI_m', nI_ng, nN_lt, nN_le, nI_add, pk_mul, nI_S, nI_R4, nI_R64, nI_32, st_eq, st_k, st_j, if_true, if_false, Nat.not_lt_zero, Nat.zero_le]
    · have b := hM.2.2.2.2.1 l hl
      have b2 := (hM.1 c l hc hl).2.2.1
      have b3 := (hM.2.1 c hc).2.2.2.1
      by_cases h5 : A 5 c 0 = 99
      · rw [if_pos h5] at b3
        simp +decide (disch := omega) only [f_Mo_lend, f_Mo_lend_b14, f_Mo_lend_b28, f_Mo_lend_b65, f_Mo_lend_b69, u0, q_ip hM hn hl hc, f_Mo_at, b, c0, b3, q_r2, th1, jn_0, jn_1, jn_2, jn_3, jn_4, jn_5, jn_6, jn_7, jn_8, jn_9, jn_10, jn_11, jn_12, jn_13, jn_14, jn_15, jn_16, jn_20, jn_21, jn_22, jn_23, jn_24, jn_25, jn_26, jn_27, jn_28, jn_29, jn_30, jn_31, jn_32, jn_33, jn_34, jn_35, jn_36, jn_37, jn_38, jn_39, jn_40, jn_41, jn_42, jn_43, jn_44, jn_50, js_0, js_1, js_2, js_3, js_4, js_5, js_6, js_7, js_8, js_9, js_10, js_11, js_12, js_13, js_14, js_15, js_16, js_20, js_21, js_22, js_23, js_24, js_25, js_26, js_27, js_28, js_29, js_30, js_31, js_32, js_33, js_34, js_35, js_36, js_37, js_38, js_39, js_40, js_41, js_42, js_43, js_44, js_50, bd_0, bd_1, bd_2, bd_3, let_e, nz_0, nz_1, nz_n0, nz_n1, ix_n, nl_0, nl_1, nl_2, nl_3, nl_4, nl_5, nl_6, nl_7, nl_8, nl_9, nl_10, nl_11, nl_12, nl_16, nl_40, nl_64, nl_200, nl_1000, nl_m, nl_m2, nar_0, nar_1, nI_cl, nI_E, nI_L, nI_T, nI_m, nI_m', nI_ng, nN_lt, nN_le, nI_add, pk_mul, nI_S, nI_R4, nI_R64, nI_32, st_eq, st_k, st_j, if_true, if_false, Nat.not_lt_zero, Nat.zero_le]
      · rw [if_neg h5] at b3
        simp +decide (disch := omega) only [f_Mo_lend, f_Mo_lend_b14, f_Mo_lend_b28, f_Mo_lend_b65, f_Mo_lend_b69, u0, q_ip hM hn hl hc, f_Mo_at, b, c0, b3, b2, e2, q_r2, th1, jn_0, jn_1, jn_2, jn_3, jn_4, jn_5, jn_6, jn_7, jn_8, jn_9, jn_10, jn_11, jn_12, jn_13, jn_14, jn_15, jn_16, jn_20, jn_21, jn_22, jn_23, jn_24, jn_25, jn_26, jn_27, jn_28, jn_29, jn_30, jn_31, jn_32, jn_33, jn_34, jn_35, jn_36, jn_37, jn_38, jn_39, jn_40, jn_41, jn_42, jn_43, jn_44, jn_50, js_0, js_1, js_2, js_3, js_4, js_5, js_6, js_7, js_8, js_9, js_10, js_11, js_12, js_13, js_14, js_15, js_16, js_20, js_21, js_22, js_23, js_24, js_25, js_26, js_27, js_28, js_29, js_30, js_31, js_32, js_33, js_34, js_35, js_36, js_37, js_38, js_39, js_40, js_41, js_42, js_43, js_44, js_50, bd_0, bd_1, bd_2, bd_3, let_e, nz_0, nz_1, nz_n0, nz_n1, ix_n, nl_0, nl_1, nl_2, nl_3, nl_4, nl_5, nl_6, nl_7, nl_8, nl_9, nl_10, nl_11, nl_12, nl_16, nl_40, nl_64, nl_200, nl_1000, nl_m, nl_m2, nar_0, nar_1, nI_cl, nI_E, nI_L, nI_T, nI_m, nI_m', nI_ng, nN_lt, nN_le, nI_add, pk_mul, nI_S, nI_R4, nI_R64, nI_32, st_eq, st_k, st_j, if_true, if_false, Nat.not_lt_zero, Nat.zero_le]
/-! giving back -/
def sLoan (A : mm_A) (c l : Nat) : mm_A := if 200 ≤ A 5 c 2 then A else as (as A 14 c (A 5 c 2) l) 5 c 2 (A 5 c 2 + 1)
theorem k_loan {n sh : Nat} {C : mm_M} {A : mm_A} (h : Rp n sh C A) {c l : Nat} (hc : c < 3) (hb : A 5 c 2 ≤ 200) : CR n sh C (fun g => f_Co_recordLoan n g c (nI l)) 0 (nI 0) (sLoan A c l) := by
  have r := h.2.1 c hc
  by_cases e : 200 ≤ A 5 c 2
  · refine ⟨C, fun M => ?_, ?_⟩
    · simp +decide (disch := omega) only [f_Co_recordLoan_b30, f_Co_recordLoan, r.2.2.1, e, jn_0, jn_1, jn_2, jn_3, jn_4, jn_5, jn_6, jn_7, jn_8, jn_9, jn_10, jn_11, jn_12, jn_13, jn_14, jn_15, jn_16, jn_20, jn_21, jn_22, jn_23, jn_24, jn_25, jn_26, jn_27, jn_28, jn_29, jn_30, jn_31, jn_32, jn_33, jn_34, jn_35, jn_36, jn_37, jn_38, jn_39, jn_40, jn_41, jn_42, jn_43, jn_44, jn_50, js_0, js_1, js_2, js_3, js_4, js_5, js_6, js_7, js_8, js_9, js_10, js_11, js_12, js_13, js_14, js_15, js_16, js_20, js_21, js_22, js_23, js_24, js_25, js_26, js_27, js_28, js_29, js_30, js_31, js_32, js_33, js_34, js_35, js_36, js_37, js_38, js_39, js_40, js_41, js_42, js_43, js_44, js_50, bd_0, bd_1, bd_2, bd_3, let_e, nz_0, nz_1, nz_n0, nz_n1, ix_n, nl_0, nl_1, nl_2, nl_3, nl_4, nl_5, nl_6, nl_7, nl_8, nl_9, nl_10, nl_11, nl_12, nl_16, nl_40, nl_64, nl_200, nl_1000, nl_m, nl_m2, nar_0, nar_1, nI_cl, nI_E, nI_L, nI_T, nI_m, nI_m', nI_ng, nN_lt, nN_le, nI_add, pk_mul, nI_S, nI_R4, nI_R64, nI_32, st_eq, st_k, st_j, if_true, if_false, Nat.not_lt_zero, Nat.zero_le]
    · unfold sLoan
      rw [if_pos e]
      exact h
  · refine ⟨mm_st (mm_st C 7 c (A 5 c 2) (nI l)) 5 c 2 (nI (A 5 c 2 + 1)), fun M => ?_, ?_⟩
    · simp +decide (disch := omega) only [f_Co_recordLoan_b30, f_Co_recordLoan, r.2.2.1, e, jn_0, jn_1, jn_2, jn_3, jn_4, jn_5, jn_6, jn_7, jn_8, jn_9, jn_10, jn_11, jn_12, jn_13, jn_14, jn_15, jn_16, jn_20, jn_21, jn_22, jn_23, jn_24, jn_25, jn_26, jn_27, jn_28, jn_29, jn_30, jn_31, jn_32, jn_33, jn_34, jn_35, jn_36, jn_37, jn_38, jn_39, jn_40, jn_41, jn_42, jn_43, jn_44, jn_50, js_0, js_1, js_2, js_3, js_4, js_5, js_6, js_7, js_8, js_9, js_10, js_11, js_12, js_13, js_14, js_15, js_16, js_20, js_21, js_22, js_23, js_24, js_25, js_26, js_27, js_28, js_29, js_30, js_31, js_32, js_33, js_34, js_35, js_36, js_37, js_38, js_39, js_40, js_41, js_42, js_43, js_44, js_50, bd_0, bd_1, bd_2, bd_3, let_e, nz_0, nz_1, nz_n0, nz_n1, ix_n, nl_0, nl_1, nl_2, nl_3, nl_4, nl_5, nl_6, nl_7, nl_8, nl_9, nl_10, nl_11, nl_12, nl_16, nl_40, nl_64, nl_200, nl_1000, nl_m, nl_m2, nar_0, nar_1, nI_cl, nI_E, nI_L, nI_T, nI_m, nI_m', nI_ng, nN_lt, nN_le, nI_add, pk_mul, nI_S, nI_R4, nI_R64, nI_32, st_eq, st_k, st_j, if_true, if_false, Nat.not_lt_zero, Nat.zero_le]
    · unfold sLoan
      rw [if_neg e]
      exact Rp_ln (Rp_lp h hc (by omega) rfl) hc rfl
theorem sLoan_f (A : mm_A) (c l : Nat) {f : Nat} (h5 : f ≠ 5) (h14 : f ≠ 14) : sLoan A c l f = A f := by
  unfold sLoan
  split
  · rfl
  · rw [as_f h5, as_f h14]
theorem sLoan_0 (A : mm_A) (c l c' : Nat) : sLoan A c l 5 c' 0 = A 5 c' 0 := by
  unfold sLoan
  split
  · rfl
  · simp [as_ap]
theorem Pr_loan {n sh T : Nat} {A : mm_A} (h : Pr n sh T A) {c l : Nat} (hb : A 5 c 2 ≤ 200) : Pr n sh T (sLoan A c l) := by
  unfold sLoan
  split
  · exact h
  · exact Pr_ln (Pr_any h (by omega)) (by omega)
def sGive (sh : Nat) (A : mm_A) (c l : Nat) : mm_A :=
  if A 3 c l = 99 then as (as (sLoan A c l) 13 c l 0) 4 c l (if A 1 c l = 0 then 4 else 2)
  else if A 1 c l = 0 then sOn (as (sLoan A c l) 13 c l 0) c l else sOpen sh (sOn (as (sLoan A c l) 13 c l 0) c l) c l
theorem sLoan_as (A : mm_A) (c l : Nat) : sLoan (as A 13 c l 0) c l = as (sLoan A c l) 13 c l 0 := by
  unfold sLoan
  rw [as_f (show 5 ≠ 13 by decide)]
  split
  · rfl
  · rw [as_comm _ (show 13 ≠ 14 by decide), as_comm _ (show 13 ≠ 5 by decide)]

theorem q_loan {n sh : Nat} {M : mm_M} {A : mm_A} (h : Rm n sh M A) {c l : Nat} (hc : c < 3) (hb : A 5 c 2 ≤ 200) : ∃ M', Rm n sh M' (sLoan A c l) ∧ M' 50 = M 50 ∧ M' 20 0 0 = M 20 0 0 ∧ (200 ≤ A 5 c 2 → M' = M) ∧ (¬ 200 ≤ A 5 c 2 → M' = mm_st (mm_st M 33 0 (200 * c + A 5 c 2) (nI l)) 32 0 c (nI (A 5 c 2 + 1))) := by
  by_cases e : 200 ≤ A 5 c 2
  · refine ⟨M, ?_, rfl, rfl, fun _ => rfl, fun q => absurd e q⟩
    unfold sLoan
    rw [if_pos e]
    exact h
  · refine ⟨mm_st (mm_st M 33 0 (200 * c + A 5 c 2) (nI l)) 32 0 c (nI (A 5 c 2 + 1)), ?_, by rw [st_k (by decide), st_k (by decide)], by rw [st_k (by decide), st_k (by decide)], fun q => absurd q e, fun _ => rfl⟩
    unfold sLoan
    rw [if_neg e]
    exact Rm_ln (Rm_lp h hc (by omega) rfl) hc rfl
theorem sOn_o (A : mm_A) (c l : Nat) {f : Nat} (h3 : f ≠ 3) (h4 : f ≠ 4) (h5 : f ≠ 5) : sOn A c l f = A f := by
  unfold sOn
  rw [as_f h4, as_f h3, as_f h5, as_f h5]
theorem sOn_4 (A : mm_A) (c l : Nat) : sOn A c l 4 c l = 0 := by
  unfold sOn
  rw [as_e]
theorem sOn_50 (A : mm_A) (c l : Nat) : sOn A c l 5 c 0 = A 3 c l := by
  simp [sOn, as_ap]
theorem ag_give {n sh T : Nat} {A : mm_A} {C : mm_M} (hn : n ≤ 12) (hT : T < 1000000) (hR : Rp n sh C A) (hP : Pr n sh T A) (x y : Int32) : AG n sh T A C (fun g => f_LA_giveBack n g 0 x y) (fun g => f_Mo_giveBack n g 0 x y) [0, 1, 3] th1 := by
  rcases tri n (by omega) x with hb | ⟨l, hl, rfl⟩
  · refine AG_same hR hP 1 (by simp) (v := nI 0) (v' := nI 0) (fun M => ?_) (fun M hM => ?_) (fun _ => rfl)
    · simp +decide (disch := omega) only [f_LA_giveBack_b68, f_LA_giveBack_b99, f_LA_giveBack, k_rlb hR hb, jn_0, jn_1, jn_2, jn_3, jn_4, jn_5, jn_6, jn_7, jn_8, jn_9, jn_10, jn_11, jn_12, jn_13, jn_14, jn_15, jn_16, jn_20, jn_21, jn_22, jn_23, jn_24, jn_25, jn_26, jn_27, jn_28, jn_29, jn_30, jn_31, jn_32, jn_33, jn_34, jn_35, jn_36, jn_37, jn_38, jn_39, jn_40, jn_41, jn_42, jn_43, jn_44, jn_50, js_0, js_1, js_2, js_3, js_4, js_5, js_6, js_7, js_8, js_9, js_10, js_11, js_12, js_13, js_14, js_15, js_16, js_20, js_21, js_22, js_23, js_24, js_25, js_26, js_27, js_28, js_29, js_30, js_31, js_32, js_33, js_34, js_35, js_36, js_37, js_38, js_39, js_40, js_41, js_42, js_43, js_44, js_50, bd_0, bd_1, bd_2, bd_3, let_e, nz_0, nz_1, nz_n0, nz_n1, ix_n, nl_0, nl_1, nl_2, nl_3, nl_4, nl_5, nl_6, nl_7, nl_8, nl_9, nl_10, nl_11, nl_12, nl_16, nl_40, nl_64, nl_200, nl_1000, nl_m, nl_m2, nar_0, nar_1, nI_cl, nI_E, nI_L, nI_T, nI_m, nI_m', nI_ng, nN_lt, nN_le, nI_add, pk_mul, nI_S, nI_R4, nI_R64, nI_32, st_eq, st_k, st_j, if_true, if_false, Nat.not_lt_zero, Nat.zero_le]
    · simp +decide (disch := omega) only [f_Mo_giveBack, f_Mo_giveBack_b14, f_Mo_giveBack_b28, f_Mo_giveBack_b65, f_Mo_giveBack_b69, f_Mo_giveBack_b70, q_ipl hM hb, q_r1, th1, jn_0, jn_1, jn_2, jn_3, jn_4, jn_5, jn_6, jn_7, jn_8, jn_9, jn_10, jn_11, jn_12, jn_13, jn_14, jn_15, jn_16, jn_20, jn_21, jn_22, jn_23, jn_24, jn_25, jn_26, jn_27, jn_28, jn_29, jn_30, jn_31, jn_32, jn_33, jn_34, jn_35, jn_36, jn_37, jn_38, jn_39, jn_40, jn_41, jn_42, jn_43, jn_44, jn_50, js_0, js_1, js_2, js_3, js_4, js_5, js_6, js_7, js_8, js_9, js_10, js_11, js_12, js_13, js_14, js_15, js_16, js_20, js_21, js_22, js_23, js_24, js_25, js_26, js_27, js_28, js_29, js_30, js_31, js_32, js_33, js_34, js_35, js_36, js_37, js_38, js_39, js_40, js_41, js_42, js_43, js_44, js_50, bd_0, bd_1, bd_2, bd_3, let_e, nz_0, nz_1, nz_n0, nz_n1, ix_n, nl_0, nl_1, nl_2, nl_3, nl_4, nl_5, nl_6, nl_7, nl_8, nl_9, nl_10, nl_11, nl_12, nl_16, nl_40, nl_64, nl_200, nl_1000, nl_m, nl_m2, nar_0, nar_1, nI_cl, nI_E, nI_L, nI_T, nI_m, nI_m', nI_ng, nN_lt, nN_le, nI_add, pk_mul, nI_S, nI_R4, nI_R64, nI_32, st_eq, st_k, st_j, if_true, if_false, Nat.not_lt_zero, Nat.zero_le]
  rcases tri 3 (by decide) y with hb | ⟨c, hc, rfl⟩
  · refine AG_same hR hP 1 (by simp) (v := nI 0) (v' := nI 0) (fun M => ?_) (fun M hM => ?_) (fun _ => rfl)
    · simp +decide (disch := omega) only [f_LA_giveBack_b68, f_LA_giveBack_b99, f_LA_giveBack, k_rl hR hn hl, k_rcb hb, jn_0, jn_1, jn_2, jn_3, jn_4, jn_5, jn_6, jn_7, jn_8, jn_9, jn_10, jn_11, jn_12, jn_13, jn_14, jn_15, jn_16, jn_20, jn_21, jn_22, jn_23, jn_24, jn_25, jn_26, jn_27, jn_28, jn_29, jn_30, jn_31, jn_32, jn_33, jn_34, jn_35, jn_36, jn_37, jn_38, jn_39, jn_40, jn_41, jn_42, jn_43, jn_44, jn_50, js_0, js_1, js_2, js_3, js_4, js_5, js_6, js_7, js_8, js_9, js_10, js_11, js_12, js_13, js_14, js_15, js_16, js_20, js_21, js_22, js_23, js_24, js_25, js_26, js_27, js_28, js_29, js_30, js_31, js_32, js_33, js_34, js_35, js_36, js_37, js_38, js_39, js_40, js_41, js_42, js_43, js_44, js_50, bd_0, bd_1, bd_2, bd_3, let_e, nz_0, nz_1, nz_n0, nz_n1, ix_n, nl_0, nl_1, nl_2, nl_3, nl_4, nl_5, nl_6, nl_7, nl_8, nl_9, nl_10, nl_11, nl_12, nl_16, nl_40, nl_64, nl_200, nl_1000, nl_m, nl_m2, nar_0, nar_1, nI_cl, nI_E, nI_L, nI_T, nI_m, nI_m', nI_ng, nN_lt, nN_le, nI_add, pk_mul, nI_S, nI_R4, nI_R64, nI_32, st_eq, st_k, st_j, if_true, if_false, Nat.not_lt_zero, Nat.zero_le]
    · simp +decide (disch := omega) only [f_Mo_giveBack, f_Mo_giveBack_b14, f_Mo_giveBack_b28, f_Mo_giveBack_b65, f_Mo_giveBack_b69, f_Mo_giveBack_b70, q_ipc hM hn hl hb, q_r1, th1, jn_0, jn_1, jn_2, jn_3, jn_4, jn_5, jn_6, jn_7, jn_8, jn_9, jn_10, jn_11, jn_12, jn_13, jn_14, jn_15, jn_16, jn_20, jn_21, jn_22, jn_23, jn_24, jn_25, jn_26, jn_27, jn_28, jn_29, jn_30, jn_31, jn_32, jn_33, jn_34, jn_35, jn_36, jn_37, jn_38, jn_39, jn_40, jn_41, jn_42, jn_43, jn_44, jn_50, js_0, js_1, js_2, js_3, js_4, js_5, js_6, js_7, js_8, js_9, js_10, js_11, js_12, js_13, js_14, js_15, js_16, js_20, js_21, js_22, js_23, js_24, js_25, js_26, js_27, js_28, js_29, js_30, js_31, js_32, js_33, js_34, js_35, js_36, js_37, js_38, js_39, js_40, js_41, js_42, js_43, js_44, js_50, bd_0, bd_1, bd_2, bd_3, let_e, nz_0, nz_1, nz_n0, nz_n1, ix_n, nl_0, nl_1, nl_2, nl_3, nl_4, nl_5, nl_6, nl_7, nl_8, nl_9, nl_10, nl_11, nl_12, nl_16, nl_40, nl_64, nl_200, nl_1000, nl_m, nl_m2, nar_0, nar_1, nI_cl, nI_E, nI_L, nI_T, nI_m, nI_m', nI_ng, nN_lt, nN_le, nI_add, pk_mul, nI_S, nI_R4, nI_R64, nI_32, st_eq, st_k, st_j, if_true, if_false, Nat.not_lt_zero, Nat.zero_le]
  have d4 := hP.1 c l hc hl
  by_cases cd : A 11 l 0 = 1
  · refine AG_same hR hP 3 (by simp) (v := nI 0) (v' := nI 0) (fun M => ?_) (fun M hM => ?_) (fun _ => rfl)
    · simp +decide (disch := omega) only [f_LA_giveBack_b68, f_LA_giveBack_b99, f_LA_giveBack, k_rl hR hn hl, k_rc hc, k_upb hR hn hl cd, jn_0, jn_1, jn_2, jn_3, jn_4, jn_5, jn_6, jn_7, jn_8, jn_9, jn_10, jn_11, jn_12, jn_13, jn_14, jn_15, jn_16, jn_20, jn_21, jn_22, jn_23, jn_24, jn_25, jn_26, jn_27, jn_28, jn_29, jn_30, jn_31, jn_32, jn_33, jn_34, jn_35, jn_36, jn_37, jn_38, jn_39, jn_40, jn_41, jn_42, jn_43, jn_44, jn_50, js_0, js_1, js_2, js_3, js_4, js_5, js_6, js_7, js_8, js_9, js_10, js_11, js_12, js_13, js_14, js_15, js_16, js_20, js_21, js_22, js_23, js_24, js_25, js_26, js_27, js_28, js_29, js_30, js_31, js_32, js_33, js_34, js_35, js_36, js_37, js_38, js_39, js_40, js_41, js_42, js_43, js_44, js_50, bd_0, bd_1, bd_2, bd_3, let_e, nz_0, nz_1, nz_n0, nz_n1, ix_n, nl_0, nl_1, nl_2, nl_3, nl_4, nl_5, nl_6, nl_7, nl_8, nl_9, nl_10, nl_11, nl_12, nl_16, nl_40, nl_64, nl_200, nl_1000, nl_m, nl_m2, nar_0, nar_1, nI_cl, nI_E, nI_L, nI_T, nI_m, nI_m', nI_ng, nN_lt, nN_le, nI_add, pk_mul, nI_S, nI_R4, nI_R64, nI_32, st_eq, st_k, st_j, if_true, if_false, Nat.not_lt_zero, Nat.zero_le]
    · have b := hM.2.2.2.2.1 l hl
      simp +decide (disch := omega) only [f_Mo_giveBack, f_Mo_giveBack_b14, f_Mo_giveBack_b28, f_Mo_giveBack_b65, f_Mo_giveBack_b69, f_Mo_giveBack_b70, q_ip hM hn hl hc, f_Mo_at, b, cd, q_r2, th1, jn_0, jn_1, jn_2, jn_3, jn_4, jn_5, jn_6, jn_7, jn_8, jn_9, jn_10, jn_11, jn_12, jn_13, jn_14, jn_15, jn_16, jn_20, jn_21, jn_22, jn_23, jn_24, jn_25, jn_26, jn_27, jn_28, jn_29, jn_30, jn_31, jn_32, jn_33, jn_34, jn_35, jn_36, jn_37, jn_38, jn_39, jn_40, jn_41, jn_42, jn_43, jn_44, jn_50, js_0, js_1, js_2, js_3, js_4, js_5, js_6, js_7, js_8, js_9, js_10, js_11, js_12, js_13, js_14, js_15, js_16, js_20, js_21, js_22, js_23, js_24, js_25, js_26, js_27, js_28, js_29, js_30, js_31, js_32, js_33, js_34, js_35, js_36, js_37, js_38, js_39, js_40, js_41, js_42, js_43, js_44, js_50, bd_0, bd_1, bd_2, bd_3, let_e, nz_0, nz_1, nz_n0, nz_n1, ix_n, nl_0, nl_1, nl_2, nl_3, nl_4, nl_5, nl_6, nl_7, nl_8, nl_9, nl_10, nl_11, nl_12, nl_16, nl_40, nl_64, nl_200, nl_1000, nl_m, nl_m2, nar_0, nar_1, nI_cl, nI_E, nI_L, nI_T, nI_m, nI_m', nI_ng, nN_lt, nN_le, nI_add, pk_mul, nI_S, nI_R4, nI_R64, nI_32, st_eq, st_k, st_j, if_true, if_false, Nat.not_lt_zero, Nat.zero_le]
  have c0 : A 11 l 0 = 0 := by
    have := hP.2.2.2.2 l hl
    omega
  by_cases e3 : A 4 c l = 3
  · have h5 : A 5 c 0 ≠ 99 := fun q => by
      have := ((hP.2.1 c hc).2.2.1 q).2 l hl
      omega
    have hln := (hP.2.1 c hc).1
    have hfo := (((hP.2.1 c hc).2.2.2 h5).2.1 l hl).2.2.1
    have er : ∀ M, f_LA_requireState n (jn C M) (12 * c + l) (nI 3) = some (0, nI 0, jn C M) := fun M => by
      rw [k_rs hR hc hl (by omega) d4.2.1, if_pos e3]
    obtain ⟨C1, e1, p1⟩ := k_loan (l := l) (Rp_bo hR hn hc hl (v := nI 0) (x := 0) rfl) hc (by rw [as_f (show 5 ≠ 13 by decide)]; exact hln)
    rw [sLoan_as] at p1
    have P1' : Pr n sh T (as (sLoan A c l) 13 c l 0) := Pr_any (Pr_loan hP hln) (by omega)
    have g1 : as (sLoan A c l) 13 c l 0 1 = A 1 := by rw [as_f (by decide), sLoan_f _ _ _ (by decide) (by decide)]
    have g2 : as (sLoan A c l) 13 c l 0 2 = A 2 := by rw [as_f (by decide), sLoan_f _ _ _ (by decide) (by decide)]
    have g3 : as (sLoan A c l) 13 c l 0 3 = A 3 := by rw [as_f (by decide), sLoan_f _ _ _ (by decide) (by decide)]
    have g4 : as (sLoan A c l) 13 c l 0 4 = A 4 := by rw [as_f (by decide), sLoan_f _ _ _ (by decide) (by decide)]
    have g5 : as (sLoan A c l) 13 c l 0 5 c 0 = A 5 c 0 := by rw [as_f (show 5 ≠ 13 by decide), sLoan_0]
    have gm : ∀ M, Rm n sh M A → ∃ M1, Rm n sh M1 (as (sLoan A c l) 13 c l 0) ∧ M1 50 = M 50 ∧ M1 20 0 0 = nI 0 ∧ ∀ C0 : mm_M, f_Mo_giveBack n (jn C0 M) 0 (nI l) (nI c) = (if M1 25 0 (12 * c + l) < nI 0 then f_Mo_giveBack_b154 n (jn C0 (mm_st M1 26 0 (12 * c + l) (nI 4))) 0 (nI l) (nI c) (nI (12 * c + l)) else mm_bd (f_Mo_sendOn n (jn C0 M1) 0 (nI l) (nI c)) 0 (fun z5 g6 => f_Mo_giveBack_b154 n g6 0 (nI l) (nI c) (nI (12 * c + l)))) := fun M hM => by
      have b := hM.2.2.2.2.1 l hl
      have b2 := (hM.1 c l hc hl).2.2.1
      have b3 := (hM.2.1 c hc).2.2.2.1
      have b4 := (hM.2.1 c hc).2.2.1
      rw [if_neg h5] at b3
      obtain ⟨M0, r0, s0, t0, u0, w0⟩ := q_loan (l := l) (Rm_th (v := nI 0) hM) hc hln
      refine ⟨mm_st M0 27 0 (12 * c + l) (nI 0), Rm_bo r0 hn hc hl rfl, by rw [st_k (by decide), s0, st_k (by decide)], by rw [st_k (by decide), t0, st_eq], fun C0 => ?_⟩
      have st1 : f_Mo_giveBack n (jn C0 M) 0 (nI l) (nI c) = f_Mo_giveBack_b70 n (jn C0 M) 0 (nI l) (nI c) (nI (12 * c + l)) 0 (nI 0) (nI 0) := by
        simp +decide (disch := omega) only [f_Mo_giveBack, f_Mo_giveBack_b14, f_Mo_giveBack_b28, f_Mo_giveBack_b65, f_Mo_giveBack_b69, q_ip hM hn hl hc, f_Mo_at, b, c0, b3, b2, e3, jn_0, jn_1, jn_2, jn_3, jn_4, jn_5, jn_6, jn_7, jn_8, jn_9, jn_10, jn_11, jn_12, jn_13, jn_14, jn_15, jn_16, jn_20, jn_21, jn_22, jn_23, jn_24, jn_25, jn_26, jn_27, jn_28, jn_29, jn_30, jn_31, jn_32, jn_33, jn_34, jn_35, jn_36, jn_37, jn_38, jn_39, jn_40, jn_41, jn_42, jn_43, jn_44, jn_50, js_0, js_1, js_2, js_3, js_4, js_5, js_6, js_7, js_8, js_9, js_10, js_11, js_12, js_13, js_14, js_15, js_16, js_20, js_21, js_22, js_23, js_24, js_25, js_26, js_27, js_28, js_29, js_30, js_31, js_32, js_33, js_34, js_35, js_36, js_37, js_38, js_39, js_40, js_41, js_42, js_43, js_44, js_50, bd_0, bd_1, bd_2, bd_3, let_e, nz_0, nz_1, nz_n0, nz_n1, ix_n, nl_0, nl_1, nl_2, nl_3, nl_4, nl_5, nl_6, nl_7, nl_8, nl_9, nl_10, nl_11, nl_12, nl_16, nl_40, nl_64, nl_200, nl_1000, nl_m, nl_m2, nar_0, nar_1, nI_cl, nI_E, nI_L, nI_T, nI_m, nI_m', nI_ng, nN_lt, nN_le, nI_add, pk_mul, nI_S, nI_R4, nI_R64, nI_32, st_eq, st_k, st_j, if_true, if_false, Nat.not_lt_zero, Nat.zero_le]
      have st2 : f_Mo_giveBack_b70 n (jn C0 M) 0 (nI l) (nI c) (nI (12 * c + l)) 0 (nI 0) (nI 0) = f_Mo_giveBack_b119 n (jn C0 M0) 0 (nI l) (nI c) (nI (12 * c + l)) := by
        unfold f_Mo_giveBack_b70
        have h0 : f_Mo_refused n (jn C0 M) 0 (nI 0) (nI 0) 0 = some (0, nI 0, jn C0 (mm_st M 20 0 0 (nI 0))) := q_r0 C0 M
        rw [h0, bd_0]
        by_cases e : 200 ≤ A 5 c 2
        · have u0 := u0 e
          simp +decide (disch := omega) only [b4, e, u0, jn_0, jn_1, jn_2, jn_3, jn_4, jn_5, jn_6, jn_7, jn_8, jn_9, jn_10, jn_11, jn_12, jn_13, jn_14, jn_15, jn_16, jn_20, jn_21, jn_22, jn_23, jn_24, jn_25, jn_26, jn_27, jn_28, jn_29, jn_30, jn_31, jn_32, jn_33, jn_34, jn_35, jn_36, jn_37, jn_38, jn_39, jn_40, jn_41, jn_42, jn_43, jn_44, jn_50, js_0, js_1, js_2, js_3, js_4, js_5, js_6, js_7, js_8, js_9, js_10, js_11, js_12, js_13, js_14, js_15, js_16, js_20, js_21, js_22, js_23, js_24, js_25, js_26, js_27, js_28, js_29, js_30, js_31, js_32, js_33, js_34, js_35, js_36, js_37, js_38, js_39, js_40, js_41, js_42, js_43, js_44, js_50, bd_0, bd_1, bd_2, bd_3, let_e, nz_0, nz_1, nz_n0, nz_n1, ix_n, nl_0, nl_1, nl_2, nl_3, nl_4, nl_5, nl_6, nl_7, nl_8, nl_9, nl_10, nl_11, nl_12, nl_16, nl_40, nl_64, nl_200, nl_1000, nl_m, nl_m2, nar_0, nar_1, nI_cl, nI_E, nI_L, nI_T, nI_m, nI_m', nI_ng, nN_lt, nN_le, nI_add, pk_mul, nI_S, nI_R4, nI_R64, nI_32, st_eq, st_k, st_j, if_true, if_false, Nat.not_lt_zero, Nat.zero_le]
        · have w0 := w0 e
          simp +decide (disch := omega) only [b4, e, w0, jn_0, jn_1, jn_2, jn_3, jn_4, jn_5, jn_6, jn_7, jn_8, jn_9, jn_10, jn_11, jn_12, jn_13, jn_14, jn_15, jn_16, jn_20, jn_21, jn_22, jn_23, jn_24, jn_25, jn_26, jn_27, jn_28, jn_29, jn_30, jn_31, jn_32, jn_33, jn_34, jn_35, jn_36, jn_37, jn_38, jn_39, jn_40, jn_41, jn_42, jn_43, jn_44, jn_50, js_0, js_1, js_2, js_3, js_4, js_5, js_6, js_7, js_8, js_9, js_10, js_11, js_12, js_13, js_14, js_15, js_16, js_20, js_21, js_22, js_23, js_24, js_25, js_26, js_27, js_28, js_29, js_30, js_31, js_32, js_33, js_34, js_35, js_36, js_37, js_38, js_39, js_40, js_41, js_42, js_43, js_44, js_50, bd_0, bd_1, bd_2, bd_3, let_e, nz_0, nz_1, nz_n0, nz_n1, ix_n, nl_0, nl_1, nl_2, nl_3, nl_4, nl_5, nl_6, nl_7, nl_8, nl_9, nl_10, nl_11, nl_12, nl_16, nl_40, nl_64, nl_200, nl_1000, nl_m, nl_m2, nar_0, nar_1, nI_cl, nI_E, nI_L, nI_T, nI_m, nI_m', nI_ng, nN_lt, nN_le, nI_add, pk_mul, nI_S, nI_R4, nI_R64, nI_32, st_eq, st_k, st_j, if_true, if_false, Nat.not_lt_zero, Nat.zero_le]
      rw [st1, st2]
      unfold f_Mo_giveBack_b119
      simp +decide (disch := omega) only [jn_0, jn_1, jn_2, jn_3, jn_4, jn_5, jn_6, jn_7, jn_8, jn_9, jn_10, jn_11, jn_12, jn_13, jn_14, jn_15, jn_16, jn_20, jn_21, jn_22, jn_23, jn_24, jn_25, jn_26, jn_27, jn_28, jn_29, jn_30, jn_31, jn_32, jn_33, jn_34, jn_35, jn_36, jn_37, jn_38, jn_39, jn_40, jn_41, jn_42, jn_43, jn_44, jn_50, js_0, js_1, js_2, js_3, js_4, js_5, js_6, js_7, js_8, js_9, js_10, js_11, js_12, js_13, js_14, js_15, js_16, js_20, js_21, js_22, js_23, js_24, js_25, js_26, js_27, js_28, js_29, js_30, js_31, js_32, js_33, js_34, js_35, js_36, js_37, js_38, js_39, js_40, js_41, js_42, js_43, js_44, js_50, bd_0, bd_1, bd_2, bd_3, let_e, nz_0, nz_1, nz_n0, nz_n1, ix_n, nl_0, nl_1, nl_2, nl_3, nl_4, nl_5, nl_6, nl_7, nl_8, nl_9, nl_10, nl_11, nl_12, nl_16, nl_40, nl_64, nl_200, nl_1000, nl_m, nl_m2, nar_0, nar_1, nI_cl, nI_E, nI_L, nI_T, nI_m, nI_m', nI_ng, nN_lt, nN_le, nI_add, pk_mul, nI_S, nI_R4, nI_R64, nI_32, st_eq, st_k, st_j, if_true, if_false, Nat.not_lt_zero, Nat.zero_le]
    have r1 := p1.1 c l hc hl
    rw [g1, g3] at r1
    have hq4 := d4.1
    by_cases ef : A 3 c l = 99
    · -- nobody follows
      have rf := r1.2.2.1
      rw [ef, zf_99] at rf
      by_cases eq : A 1 c l = 0
      · refine ⟨0, nI 4, mm_st C1 8 (12 * c + l) 4 (nI 4), as (as (sLoan A c l) 13 c l 0) 4 c l 4, by simp, fun M => ?_, Rp_st p1 hn hc hl rfl, ?_, fun M hM => ?_⟩
        · simp +decide (disch := omega) only [f_LA_giveBack_b68, f_LA_giveBack_b99, f_LA_giveBack, k_rl hR hn hl, k_rc hc, k_up hR hn hl c0, er, e1, rf, r1.1, eq, jn_0, jn_1, jn_2, jn_3, jn_4, jn_5, jn_6, jn_7, jn_8, jn_9, jn_10, jn_11, jn_12, jn_13, jn_14, jn_15, jn_16, jn_20, jn_21, jn_22, jn_23, jn_24, jn_25, jn_26, jn_27, jn_28, jn_29, jn_30, jn_31, jn_32, jn_33, jn_34, jn_35, jn_36, jn_37, jn_38, jn_39, jn_40, jn_41, jn_42, jn_43, jn_44, jn_50, js_0, js_1, js_2, js_3, js_4, js_5, js_6, js_7, js_8, js_9, js_10, js_11, js_12, js_13, js_14, js_15, js_16, js_20, js_21, js_22, js_23, js_24, js_25, js_26, js_27, js_28, js_29, js_30, js_31, js_32, js_33, js_34, js_35, js_36, js_37, js_38, js_39, js_40, js_41, js_42, js_43, js_44, js_50, bd_0, bd_1, bd_2, bd_3, let_e, nz_0, nz_1, nz_n0, nz_n1, ix_n, nl_0, nl_1, nl_2, nl_3, nl_4, nl_5, nl_6, nl_7, nl_8, nl_9, nl_10, nl_11, nl_12, nl_16, nl_40, nl_64, nl_200, nl_1000, nl_m, nl_m2, nar_0, nar_1, nI_cl, nI_E, nI_L, nI_T, nI_m, nI_m', nI_ng, nN_lt, nN_le, nI_add, pk_mul, nI_S, nI_R4, nI_R64, nI_32, st_eq, st_k, st_j, if_true, if_false, Nat.not_lt_zero, Nat.zero_le]
        · exact Pr_up (Pr_st P1' hc hl (by rw [g4]; omega) (by omega) (by omega) (fun q => by omega)) (Nat.le_succ T)
        · obtain ⟨M1, w1, w2, w3, w4⟩ := gm M hM
          have wf := ((w1.1 c l hc hl).2.1 (by rw [g5]; exact h5)).2
          have wq := (w1.1 c l hc hl).1
          rw [g3, ef, zf_99] at wf
          rw [g1, eq] at wq
          refine ⟨nI 4, mm_st M1 26 0 (12 * c + l) (nI 4), ?_, Rm_st w1 hn hc hl rfl, by rw [st_k (by decide), w2], by rw [st_k (by decide), w3]; rfl, fun _ => rfl⟩
          show f_Mo_giveBack n (jn _ M) 0 (nI l) (nI c) = _
          rw [w4, wf]
          simp +decide (disch := omega) only [f_Mo_giveBack_b154, f_Mo_giveBack_b170, wq, Nat.le_refl, jn_0, jn_1, jn_2, jn_3, jn_4, jn_5, jn_6, jn_7, jn_8, jn_9, jn_10, jn_11, jn_12, jn_13, jn_14, jn_15, jn_16, jn_20, jn_21, jn_22, jn_23, jn_24, jn_25, jn_26, jn_27, jn_28, jn_29, jn_30, jn_31, jn_32, jn_33, jn_34, jn_35, jn_36, jn_37, jn_38, jn_39, jn_40, jn_41, jn_42, jn_43, jn_44, jn_50, js_0, js_1, js_2, js_3, js_4, js_5, js_6, js_7, js_8, js_9, js_10, js_11, js_12, js_13, js_14, js_15, js_16, js_20, js_21, js_22, js_23, js_24, js_25, js_26, js_27, js_28, js_29, js_30, js_31, js_32, js_33, js_34, js_35, js_36, js_37, js_38, js_39, js_40, js_41, js_42, js_43, js_44, js_50, bd_0, bd_1, bd_2, bd_3, let_e, nz_0, nz_1, nz_n0, nz_n1, ix_n, nl_0, nl_1, nl_2, nl_3, nl_4, nl_5, nl_6, nl_7, nl_8, nl_9, nl_10, nl_11, nl_12, nl_16, nl_40, nl_64, nl_200, nl_1000, nl_m, nl_m2, nar_0, nar_1, nI_cl, nI_E, nI_L, nI_T, nI_m, nI_m', nI_ng, nN_lt, nN_le, nI_add, pk_mul, nI_S, nI_R4, nI_R64, nI_32, st_eq, st_k, st_j, if_true, if_false, Nat.not_lt_zero, Nat.zero_le]
      · refine ⟨0, nI 2, mm_st C1 8 (12 * c + l) 4 (nI 2), as (as (sLoan A c l) 13 c l 0) 4 c l 2, by simp, fun M => ?_, Rp_st p1 hn hc hl rfl, ?_, fun M hM => ?_⟩
        · simp +decide (disch := omega) only [f_LA_giveBack_b68, f_LA_giveBack_b99, f_LA_giveBack, k_rl hR hn hl, k_rc hc, k_up hR hn hl c0, er, e1, rf, r1.1, eq, jn_0, jn_1, jn_2, jn_3, jn_4, jn_5, jn_6, jn_7, jn_8, jn_9, jn_10, jn_11, jn_12, jn_13, jn_14, jn_15, jn_16, jn_20, jn_21, jn_22, jn_23, jn_24, jn_25, jn_26, jn_27, jn_28, jn_29, jn_30, jn_31, jn_32, jn_33, jn_34, jn_35, jn_36, jn_37, jn_38, jn_39, jn_40, jn_41, jn_42, jn_43, jn_44, jn_50, js_0, js_1, js_2, js_3, js_4, js_5, js_6, js_7, js_8, js_9, js_10, js_11, js_12, js_13, js_14, js_15, js_16, js_20, js_21, js_22, js_23, js_24, js_25, js_26, js_27, js_28, js_29, js_30, js_31, js_32, js_33, js_34, js_35, js_36, js_37, js_38, js_39, js_40, js_41, js_42, js_43, js_44, js_50, bd_0, bd_1, bd_2, bd_3, let_e, nz_0, nz_1, nz_n0, nz_n1, ix_n, nl_0, nl_1, nl_2, nl_3, nl_4, nl_5, nl_6, nl_7, nl_8, nl_9, nl_10, nl_11, nl_12, nl_16, nl_40, nl_64, nl_200, nl_1000, nl_m, nl_m2, nar_0, nar_1, nI_cl, nI_E, nI_L, nI_T, nI_m, nI_m', nI_ng, nN_lt, nN_le, nI_add, pk_mul, nI_S, nI_R4, nI_R64, nI_32, st_eq, st_k, st_j, if_true, if_false, Nat.not_lt_zero, Nat.zero_le]
        · exact Pr_up (Pr_st P1' hc hl (by rw [g4]; omega) (by omega) (by omega) (fun q => by rw [g1]; omega)) (Nat.le_succ T)
        · obtain ⟨M1, w1, w2, w3, w4⟩ := gm M hM
          have wf := ((w1.1 c l hc hl).2.1 (by rw [g5]; exact h5)).2
          have wq := (w1.1 c l hc hl).1
          rw [g3, ef, zf_99] at wf
          rw [g1] at wq
          refine ⟨nI 2, mm_st (mm_st M1 26 0 (12 * c + l) (nI 4)) 26 0 (12 * c + l) (nI 2), ?_, ?_, by rw [st_k (by decide), st_k (by decide), w2], by rw [st_k (by decide), st_k (by decide), w3]; rfl, fun _ => rfl⟩
          · show f_Mo_giveBack n (jn _ M) 0 (nI l) (nI c) = _
            rw [w4, wf]
            have eq' : ¬ A 1 c l ≤ 0 := by omega
            simp +decide (disch := omega) only [f_Mo_giveBack_b154, f_Mo_giveBack_b170, f_Mo_opn_b66, f_Mo_opn, f_Mo_at, wq, eq', jn_0, jn_1, jn_2, jn_3, jn_4, jn_5, jn_6, jn_7, jn_8, jn_9, jn_10, jn_11, jn_12, jn_13, jn_14, jn_15, jn_16, jn_20, jn_21, jn_22, jn_23, jn_24, jn_25, jn_26, jn_27, jn_28, jn_29, jn_30, jn_31, jn_32, jn_33, jn_34, jn_35, jn_36, jn_37, jn_38, jn_39, jn_40, jn_41, jn_42, jn_43, jn_44, jn_50, js_0, js_1, js_2, js_3, js_4, js_5, js_6, js_7, js_8, js_9, js_10, js_11, js_12, js_13, js_14, js_15, js_16, js_20, js_21, js_22, js_23, js_24, js_25, js_26, js_27, js_28, js_29, js_30, js_31, js_32, js_33, js_34, js_35, js_36, js_37, js_38, js_39, js_40, js_41, js_42, js_43, js_44, js_50, bd_0, bd_1, bd_2, bd_3, let_e, nz_0, nz_1, nz_n0, nz_n1, ix_n, nl_0, nl_1, nl_2, nl_3, nl_4, nl_5, nl_6, nl_7, nl_8, nl_9, nl_10, nl_11, nl_12, nl_16, nl_40, nl_64, nl_200, nl_1000, nl_m, nl_m2, nar_0, nar_1, nI_cl, nI_E, nI_L, nI_T, nI_m, nI_m', nI_ng, nN_lt, nN_le, nI_add, pk_mul, nI_S, nI_R4, nI_R64, nI_32, st_eq, st_k, st_j, if_true, if_false, Nat.not_lt_zero, Nat.zero_le]
          · have := Rm_st (Rm_st w1 hn hc hl (v := nI 4) (x := 4) rfl) hn hc hl (v := nI 2) (x := 2) rfl
            rw [as_as] at this
            exact this
    · -- it goes to the one that follows
      have hfn : A 3 c l < n := by
        rcases hfo with q | q
        · exact absurd q ef
        · exact q
      have rf := r1.2.2.1
      rw [zf_n ef] at rf
      have POn := Pr_on hn P1' hc hl (by rw [g5]; exact h5) (by rw [g4]; omega) (by rw [g3]; exact ef)
      obtain ⟨C2, e2, p2⟩ := k_on p1 hn hc hl
      have o1 : sOn (as (sLoan A c l) 13 c l 0) c l 1 = A 1 := by rw [sOn_o _ _ _ (by decide) (by decide) (by decide), g1]
      have o4 := sOn_4 (as (sLoan A c l) 13 c l 0) c l
      have o5 : sOn (as (sLoan A c l) 13 c l 0) c l 5 c 0 ≠ 99 := by rw [sOn_50, g3]; exact ef
      have r2 := p2.1 c l hc hl
      rw [o1, o4] at r2
      by_cases eq : A 1 c l = 0
      · refine ⟨0, nI 0, C2, sOn (as (sLoan A c l) 13 c l 0) c l, by simp, fun M => ?_, p2, Pr_up POn (Nat.le_succ T), fun M hM => ?_⟩
        · simp +decide (disch := omega) only [f_LA_giveBack_b68, f_LA_giveBack_b99, f_LA_giveBack, k_rl hR hn hl, k_rc hc, k_up hR hn hl c0, er, e1, rf, e2, r2.1, r2.2.2.2.1, eq, Nat.le_refl, jn_0, jn_1, jn_2, jn_3, jn_4, jn_5, jn_6, jn_7, jn_8, jn_9, jn_10, jn_11, jn_12, jn_13, jn_14, jn_15, jn_16, jn_20, jn_21, jn_22, jn_23, jn_24, jn_25, jn_26, jn_27, jn_28, jn_29, jn_30, jn_31, jn_32, jn_33, jn_34, jn_35, jn_36, jn_37, jn_38, jn_39, jn_40, jn_41, jn_42, jn_43, jn_44, jn_50, js_0, js_1, js_2, js_3, js_4, js_5, js_6, js_7, js_8, js_9, js_10, js_11, js_12, js_13, js_14, js_15, js_16, js_20, js_21, js_22, js_23, js_24, js_25, js_26, js_27, js_28, js_29, js_30, js_31, js_32, js_33, js_34, js_35, js_36, js_37, js_38, js_39, js_40, js_41, js_42, js_43, js_44, js_50, bd_0, bd_1, bd_2, bd_3, let_e, nz_0, nz_1, nz_n0, nz_n1, ix_n, nl_0, nl_1, nl_2, nl_3, nl_4, nl_5, nl_6, nl_7, nl_8, nl_9, nl_10, nl_11, nl_12, nl_16, nl_40, nl_64, nl_200, nl_1000, nl_m, nl_m2, nar_0, nar_1, nI_cl, nI_E, nI_L, nI_T, nI_m, nI_m', nI_ng, nN_lt, nN_le, nI_add, pk_mul, nI_S, nI_R4, nI_R64, nI_32, st_eq, st_k, st_j, if_true, if_false, Nat.not_lt_zero, Nat.zero_le]
        · obtain ⟨M1, w1, w2, w3, w4⟩ := gm M hM
          have wf := ((w1.1 c l hc hl).2.1 (by rw [g5]; exact h5)).2
          rw [g3, zf_n ef] at wf
          have wf' : ¬ nI (A 3 c l) < nI 0 := fun q => nI_pos (by omega) q
          obtain ⟨M2, f2, v1, v2, v3⟩ := q_on w1 hn hc hl (by rw [g5]; exact h5) (by rw [g3]; exact ef)
          have vv := v1.1 c l hc hl
          rw [o1, o4] at vv
          refine ⟨nI 0, M2, ?_, v1, by rw [v2, w2], by rw [v3, w3]; rfl, fun _ => rfl⟩
          show f_Mo_giveBack n (jn _ M) 0 (nI l) (nI c) = _
          rw [w4, wf, if_neg wf']
          simp +decide (disch := omega) only [f_Mo_giveBack_b154, f_Mo_giveBack_b170, f2, vv.1, vv.2.2.1, eq, Nat.le_refl, jn_0, jn_1, jn_2, jn_3, jn_4, jn_5, jn_6, jn_7, jn_8, jn_9, jn_10, jn_11, jn_12, jn_13, jn_14, jn_15, jn_16, jn_20, jn_21, jn_22, jn_23, jn_24, jn_25, jn_26, jn_27, jn_28, jn_29, jn_30, jn_31, jn_32, jn_33, jn_34, jn_35, jn_36, jn_37, jn_38, jn_39, jn_40, jn_41, jn_42, jn_43, jn_44, jn_50, js_0, js_1, js_2, js_3, js_4, js_5, js_6, js_7, js_8, js_9, js_10, js_11, js_12, js_13, js_14, js_15, js_16, js_20, js_21, js_22, js_23, js_24, js_25, js_26, js_27, js_28, js_29, js_30, js_31, js_32, js_33, js_34, js_35, js_36, js_37, js_38, js_39, js_40, js_41, js_42, js_43, js_44, js_50, bd_0, bd_1, bd_2, bd_3, let_e, nz_0, nz_1, nz_n0, nz_n1, ix_n, nl_0, nl_1, nl_2, nl_3, nl_4, nl_5, nl_6, nl_7, nl_8, nl_9, nl_10, nl_11, nl_12, nl_16, nl_40, nl_64, nl_200, nl_1000, nl_m, nl_m2, nar_0, nar_1, nI_cl, nI_E, nI_L, nI_T, nI_m, nI_m', nI_ng, nN_lt, nN_le, nI_add, pk_mul, nI_S, nI_R4, nI_R64, nI_32, st_eq, st_k, st_j, if_true, if_false, Nat.not_lt_zero, Nat.zero_le]
      · have hne : sOn (as (sLoan A c l) 13 c l 0) c l 2 c l ≠ l := by
          have q := (POn.2.1 c hc).2.2.2 o5
          exact ((q.2.2.1 l hl).2.1 o4).2
        obtain ⟨k1, k2, k3, k4, k5⟩ := open_ok hn hT POn hc hl o5 hne
        have hs := POn.2.2.2.1.1
        obtain ⟨C3, e3', p3⟩ := k_open p2 hn hs hc hl (Or.inr o4) (fun _ => ⟨k1, k3, k4, k5⟩)
        have P3 := Pr_open0 hn POn hc hl o5 o4 (by rw [o1]; omega)
        have r3 := (p3.1 c l hc hl).2.2.2.1
        have eq' : ¬ A 1 c l ≤ 0 := by omega
        refine ⟨0, nI (sOpen sh (sOn (as (sLoan A c l) 13 c l 0) c l) c l 4 c l), C3, sOpen sh (sOn (as (sLoan A c l) 13 c l 0) c l) c l, by simp, fun M => ?_, p3, P3, fun M hM => ?_⟩
        · simp +decide (disch := omega) only [f_LA_giveBack_b68, f_LA_giveBack_b99, f_LA_giveBack, k_rl hR hn hl, k_rc hc, k_up hR hn hl c0, er, e1, rf, e2, r2.1, eq', e3', r3, jn_0, jn_1, jn_2, jn_3, jn_4, jn_5, jn_6, jn_7, jn_8, jn_9, jn_10, jn_11, jn_12, jn_13, jn_14, jn_15, jn_16, jn_20, jn_21, jn_22, jn_23, jn_24, jn_25, jn_26, jn_27, jn_28, jn_29, jn_30, jn_31, jn_32, jn_33, jn_34, jn_35, jn_36, jn_37, jn_38, jn_39, jn_40, jn_41, jn_42, jn_43, jn_44, jn_50, js_0, js_1, js_2, js_3, js_4, js_5, js_6, js_7, js_8, js_9, js_10, js_11, js_12, js_13, js_14, js_15, js_16, js_20, js_21, js_22, js_23, js_24, js_25, js_26, js_27, js_28, js_29, js_30, js_31, js_32, js_33, js_34, js_35, js_36, js_37, js_38, js_39, js_40, js_41, js_42, js_43, js_44, js_50, bd_0, bd_1, bd_2, bd_3, let_e, nz_0, nz_1, nz_n0, nz_n1, ix_n, nl_0, nl_1, nl_2, nl_3, nl_4, nl_5, nl_6, nl_7, nl_8, nl_9, nl_10, nl_11, nl_12, nl_16, nl_40, nl_64, nl_200, nl_1000, nl_m, nl_m2, nar_0, nar_1, nI_cl, nI_E, nI_L, nI_T, nI_m, nI_m', nI_ng, nN_lt, nN_le, nI_add, pk_mul, nI_S, nI_R4, nI_R64, nI_32, st_eq, st_k, st_j, if_true, if_false, Nat.not_lt_zero, Nat.zero_le]
        · obtain ⟨M1, w1, w2, w3, w4⟩ := gm M hM
          have wf := ((w1.1 c l hc hl).2.1 (by rw [g5]; exact h5)).2
          rw [g3, zf_n ef] at wf
          have wf' : ¬ nI (A 3 c l) < nI 0 := fun q => nI_pos (by omega) q
          obtain ⟨M2, f2, v1, v2, v3⟩ := q_on w1 hn hc hl (by rw [g5]; exact h5) (by rw [g3]; exact ef)
          have vv := v1.1 c l hc hl
          rw [o1, o4] at vv
          obtain ⟨M3, f3, y1, y2, y3⟩ := q_open v1 hn hs hc hl o5 (by omega) (fun _ => ⟨k1, k3, k4, k5⟩)
          have y4 := (y1.1 c l hc hl).2.2.1
          refine ⟨nI (sOpen sh (sOn (as (sLoan A c l) 13 c l 0) c l) c l 4 c l), M3, ?_, y1, by rw [y2, v2, w2], by rw [y3, v3, w3]; rfl, fun _ => rfl⟩
          show f_Mo_giveBack n (jn _ M) 0 (nI l) (nI c) = _
          rw [w4, wf, if_neg wf']
          simp +decide (disch := omega) only [f_Mo_giveBack_b154, f_Mo_giveBack_b170, f2, vv.1, eq', f3, y4, jn_0, jn_1, jn_2, jn_3, jn_4, jn_5, jn_6, jn_7, jn_8, jn_9, jn_10, jn_11, jn_12, jn_13, jn_14, jn_15, jn_16, jn_20, jn_21, jn_22, jn_23, jn_24, jn_25, jn_26, jn_27, jn_28, jn_29, jn_30, jn_31, jn_32, jn_33, jn_34, jn_35, jn_36, jn_37, jn_38, jn_39, jn_40, jn_41, jn_42, jn_43, jn_44, jn_50, js_0, js_1, js_2, js_3, js_4, js_5, js_6, js_7, js_8, js_9, js_10, js_11, js_12, js_13, js_14, js_15, js_16, js_20, js_21, js_22, js_23, js_24, js_25, js_26, js_27, js_28, js_29, js_30, js_31, js_32, js_33, js_34, js_35, js_36, js_37, js_38, js_39, js_40, js_41, js_42, js_43, js_44, js_50, bd_0, bd_1, bd_2, bd_3, let_e, nz_0, nz_1, nz_n0, nz_n1, ix_n, nl_0, nl_1, nl_2, nl_3, nl_4, nl_5, nl_6, nl_7, nl_8, nl_9, nl_10, nl_11, nl_12, nl_16, nl_40, nl_64, nl_200, nl_1000, nl_m, nl_m2, nar_0, nar_1, nI_cl, nI_E, nI_L, nI_T, nI_m, nI_m', nI_ng, nN_lt, nN_le, nI_add, pk_mul, nI_S, nI_R4, nI_R64, nI_32, st_eq, st_k, st_j, if_true, if_false, Nat.not_lt_zero, Nat.zero_le]
  · refine AG_same hR hP 3 (by simp) (v := nI 0) (v' := nI 0) (fun M => ?_) (fun M hM => ?_) (fun _ => rfl)
    · have er : f_LA_requireState n (jn C M) (12 * c + l) (nI 3) = some (3, nI 0, jn C M) := by
        rw [k_rs hR hc hl (by omega) d4.2.1, if_neg e3]
      simp +decide (disch := omega) only [f_LA_giveBack_b68, f_LA_giveBack_b99, f_LA_giveBack, k_rl hR hn hl, k_rc hc, k_up hR hn hl c0, er, jn_0, jn_1, jn_2, jn_3, jn_4, jn_5, jn_6, jn_7, jn_8, jn_9, jn_10, jn_11, jn_12, jn_13, jn_14, jn_15, jn_16, jn_20, jn_21, jn_22, jn_23, jn_24, jn_25, jn_26, jn_27, jn_28, jn_29, jn_30, jn_31, jn_32, jn_33, jn_34, jn_35, jn_36, jn_37, jn_38, jn_39, jn_40, jn_41, jn_42, jn_43, jn_44, jn_50, js_0, js_1, js_2, js_3, js_4, js_5, js_6, js_7, js_8, js_9, js_10, js_11, js_12, js_13, js_14, js_15, js_16, js_20, js_21, js_22, js_23, js_24, js_25, js_26, js_27, js_28, js_29, js_30, js_31, js_32, js_33, js_34, js_35, js_36, js_37, js_38, js_39, js_40, js_41, js_42, js_43, js_44, js_50, bd_0, bd_1, bd_2, bd_3, let_e, nz_0, nz_1, nz_n0, nz_n1, ix_n, nl_0, nl_1, nl_2, nl_3, nl_4, nl_5, nl_6, nl_7, nl_8, nl_9, nl_10, nl_11, nl_12, nl_16, nl_40, nl_64, nl_200, nl_1000, nl_m, nl_m2, nar_0, nar_1, nI_cl, nI_E, nI_L, nI_T, nI_m, nI_m', nI_ng, nN_lt, nN_le, nI_add, pk_mul, nI_S, nI_R4, nI_R64, nI_32, st_eq, st_k, st_j, if_true, if_false, Nat.not_lt_zero, Nat.zero_le]
    · have b := hM.2.2.2.2.1 l hl
      have b2 := (hM.1 c l hc hl).2.2.1
      have b3 := (hM.2.1 c hc).2.2.2.1
      by_cases h5 : A 5 c 0 = 99
      · rw [if_pos h5] at b3
        simp +decide (disch := omega) only [f_Mo_giveBack, f_Mo_giveBack_b14, f_Mo_giveBack_b28, f_Mo_giveBack_b65, f_Mo_giveBack_b69, f_Mo_giveBack_b70, q_ip hM hn hl hc, f_Mo_at, b, c0, b3, q_r2, th1, jn_0, jn_1, jn_2, jn_3, jn_4, jn_5, jn_6, jn_7, jn_8, jn_9, jn_10, jn_11, jn_12, jn_13, jn_14, jn_15, jn_16, jn_20, jn_21, jn_22, jn_23, jn_24, jn_25, jn_26, jn_27, jn_28, jn_29, jn_30, jn_31, jn_32, jn_33, jn_34, jn_35, jn_36, jn_37, jn_38, jn_39, jn_40, jn_41, jn_42, jn_43, jn_44, jn_50, js_0, js_1, js_2, js_3, js_4, js_5, js_6, js_7, js_8, js_9, js_10, js_11, js_12, js_13, js_14, js_15, js_16, js_20, js_21, js_22, js_23, js_24, js_25, js_26, js_27, js_28, js_29, js_30, js_31, js_32, js_33, js_34, js_35, js_36, js_37, js_38, js_39, js_40, js_41, js_42, js_43, js_44, js_50, bd_0, bd_1, bd_2, bd_3, let_e, nz_0, nz_1, nz_n0, nz_n1, ix_n, nl_0, nl_1, nl_2, nl_3, nl_4, nl_5, nl_6, nl_7, nl_8, nl_9, nl_10, nl_11, nl_12, nl_16, nl_40, nl_64, nl_200, nl_1000, nl_m, nl_m2, nar_0, nar_1, nI_cl, nI_E, nI_L, nI_T, nI_m, nI_m', nI_ng, nN_lt, nN_le, nI_add, pk_mul, nI_S, nI_R4, nI_R64, nI_32, st_eq, st_k, st_j, if_true, if_false, Nat.not_lt_zero, Nat.zero_le]
      · rw [if_neg h5] at b3
        simp +decide (disch := omega) only [f_Mo_giveBack, f_Mo_giveBack_b14, f_Mo_giveBack_b28, f_Mo_giveBack_b65, f_Mo_giveBack_b69, f_Mo_giveBack_b70, q_ip hM hn hl hc, f_Mo_at, b, c0, b3, b2, e3, q_r2, th1, jn_0, jn_1, jn_2, jn_3, jn_4, jn_5, jn_6, jn_7, jn_8, jn_9, jn_10, jn_11, jn_12, jn_13, jn_14, jn_15, jn_16, jn_20, jn_21, jn_22, jn_23, jn_24, jn_25, jn_26, jn_27, jn_28, jn_29, jn_30, jn_31, jn_32, jn_33, jn_34, jn_35, jn_36, jn_37, jn_38, jn_39, jn_40, jn_41, jn_42, jn_43, jn_44, jn_50, js_0, js_1, js_2, js_3, js_4, js_5, js_6, js_7, js_8, js_9, js_10, js_11, js_12, js_13, js_14, js_15, js_16, js_20, js_21, js_22, js_23, js_24, js_25, js_26, js_27, js_28, js_29, js_30, js_31, js_32, js_33, js_34, js_35, js_36, js_37, js_38, js_39, js_40, js_41, js_42, js_43, js_44, js_50, bd_0, bd_1, bd_2, bd_3, let_e, nz_0, nz_1, nz_n0, nz_n1, ix_n, nl_0, nl_1, nl_2, nl_3, nl_4, nl_5, nl_6, nl_7, nl_8, nl_9, nl_10, nl_11, nl_12, nl_16, nl_40, nl_64, nl_200, nl_1000, nl_m, nl_m2, nar_0, nar_1, nI_cl, nI_E, nI_L, nI_T, nI_m, nI_m', nI_ng, nN_lt, nN_le, nI_add, pk_mul, nI_S, nI_R4, nI_R64, nI_32, st_eq, st_k, st_j, if_true, if_false, Nat.not_lt_zero, Nat.zero_le]

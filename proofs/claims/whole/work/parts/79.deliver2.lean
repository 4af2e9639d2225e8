theorem ag_deliver {n sh T : Nat} {A : mm_A} {C : mm_M} (hn : n ≤ 12) (hT : T < 1000000) (hR : Rp n sh C A) (hP : Pr n sh T A) (x : Int32) : AG n sh T A C (fun g => f_LA_deliver n g 0 x) (fun g => f_Mo_deliver n g 0 x) [0, 1] th1 := by
  have hs := hP.2.2.2.1.1
  rcases tri (A 9 0 0) (by omega) x with hb | ⟨i, hi, rfl⟩
  · refine AG_same hR hP 1 (by simp) (v := nI 0) (v' := nI 0) (fun M => ?_) (fun M hM => ?_) (fun _ => rfl)
    · simp +decide (disch := omega) only [f_LA_deliver, k_rkb hR hb, jn_0, jn_1, jn_2, jn_3, jn_4, jn_5, jn_6, jn_7, jn_8, jn_9, jn_10, jn_11, jn_12, jn_13, jn_14, jn_15, jn_16, jn_20, jn_21, jn_22, jn_23, jn_24, jn_25, jn_26, jn_27, jn_28, jn_29, jn_30, jn_31, jn_32, jn_33, jn_34, jn_35, jn_36, jn_37, jn_38, jn_39, jn_40, jn_41, jn_42, jn_43, jn_44, jn_50, js_0, js_1, js_2, js_3, js_4, js_5, js_6, js_7, js_8, js_9, js_10, js_11, js_12, js_13, js_14, js_15, js_16, js_20, js_21, js_22, js_23, js_24, js_25, js_26, js_27, js_28, js_29, js_30, js_31, js_32, js_33, js_34, js_35, js_36, js_37, js_38, js_39, js_40, js_41, js_42, js_43, js_44, js_50, bd_0, bd_1, bd_2, bd_3, let_e, nz_0, nz_1, nz_n0, nz_n1, ix_n, nl_0, nl_1, nl_2, nl_3, nl_4, nl_5, nl_6, nl_7, nl_8, nl_9, nl_10, nl_11, nl_12, nl_16, nl_40, nl_64, nl_200, nl_1000, nl_m, nl_m2, nar_0, nar_1, nI_cl, nI_E, nI_L, nI_T, nI_m, nI_m', nI_ng, nN_lt, nN_le, nI_add, pk_mul, nI_S, nI_R4, nI_R64, nI_32, st_eq, st_k, st_j, if_true, if_false, Nat.not_lt_zero, Nat.zero_le]
    · simp +decide (disch := omega) only [f_Mo_deliver, f_Mo_deliver_b14, q_ikb hM hb, q_r1, th1, jn_0, jn_1, jn_2, jn_3, jn_4, jn_5, jn_6, jn_7, jn_8, jn_9, jn_10, jn_11, jn_12, jn_13, jn_14, jn_15, jn_16, jn_20, jn_21, jn_22, jn_23, jn_24, jn_25, jn_26, jn_27, jn_28, jn_29, jn_30, jn_31, jn_32, jn_33, jn_34, jn_35, jn_36, jn_37, jn_38, jn_39, jn_40, jn_41, jn_42, jn_43, jn_44, jn_50, js_0, js_1, js_2, js_3, js_4, js_5, js_6, js_7, js_8, js_9, js_10, js_11, js_12, js_13, js_14, js_15, js_16, js_20, js_21, js_22, js_23, js_24, js_25, js_26, js_27, js_28, js_29, js_30, js_31, js_32, js_33, js_34, js_35, js_36, js_37, js_38, js_39, js_40, js_41, js_42, js_43, js_44, js_50, bd_0, bd_1, bd_2, bd_3, let_e, nz_0, nz_1, nz_n0, nz_n1, ix_n, nl_0, nl_1, nl_2, nl_3, nl_4, nl_5, nl_6, nl_7, nl_8, nl_9, nl_10, nl_11, nl_12, nl_16, nl_40, nl_64, nl_200, nl_1000, nl_m, nl_m2, nar_0, nar_1, nI_cl, nI_E, nI_L, nI_T, nI_m, nI_m', nI_ng, nN_lt, nN_le, nI_add, pk_mul, nI_S, nI_R4, nI_R64, nI_32, st_eq, st_k, st_j, if_true, if_false, Nat.not_lt_zero, Nat.zero_le]
  have pk := hP.2.2.2.1.2 i hi
  obtain ⟨k0, k1, k2, k3, k4, k5⟩ := pk
  have a := hR.2.2.2.1.2 i hi
  have e6 : 6 * i = i * 6 := Nat.mul_comm 6 i
  rw [e6] at a
  obtain ⟨a0, a1, a2, a3, a4, a5⟩ := a
  obtain ⟨C1, f1, p1⟩ := k_rem hR hs hi
  have P1' := Pr_rem hP hi
  have g : ∀ f, f ≠ 9 → f ≠ 10 → sRem A i f = A f := fun f f9 f10 => sRem_f A i f9 f10
  have hdn := hP.2.2.2.2 (A 10 i 2) k2
  have u1 := p1.2.2.2.2.1 (A 10 i 2) k2
  rw [g 11 (by decide) (by decide)] at u1
  have hd1 := dr_lt (sh := sh) k1 k2
  have hd2 := dr_lt (sh := sh) k2 k1
  have z1 := hP.2.2.1 _ hd1
  have z2 := hP.2.2.1 _ hd2
  have hnu : A 10 i 3 ≤ 1000000 := by
    by_cases e : A 10 i 0 = 0
    · have := (k4 e).1
      omega
    · have := k5 (by omega)
      omega
  -- the class, as far as the packet is gone
  have cst : ∀ M, f_LA_deliver n (jn C M) 0 (nI i) = (if A 11 (A 10 i 2) 0 = 0 then (if A 10 i 0 = 0 then mm_bd (f_LA_receiveLetter n (jn C1 M) 0 (nI (A 10 i 1)) (nI (A 10 i 2)) (nI (A 10 i 3)) (zf (A 10 i 4)) (zf (A 10 i 5))) 0 (fun z22 g23 => some (0, z22, g23)) else mm_bd (f_Ma_acknowledged n (jn C1 M) 0 (nI (A 10 i 2)) (nI (A 10 i 1)) (nI (A 10 i 3))) 0 (fun z19 g20 => (if z19 = nI 0 then some (0, nI 4, g20) else some (0, nI 3, g20)))) else some (0, nI 0, jn C1 M)) := fun M => by
    by_cases e : A 10 i 0 = 0
    · rw [e] at a0
      by_cases e11 : A 11 (A 10 i 2) 0 = 0
      · rw [if_pos e11, if_pos e]
        simp +decide (disch := omega) only [f_LA_deliver, f_LA_deliver_b22, f_LA_deliver_b135, f_Po_part, k_rk hR hs hi, a0, a1, a2, a3, a4, a5, f1, u1, e11, Nat.add_zero, jn_0, jn_1, jn_2, jn_3, jn_4, jn_5, jn_6, jn_7, jn_8, jn_9, jn_10, jn_11, jn_12, jn_13, jn_14, jn_15, jn_16, jn_20, jn_21, jn_22, jn_23, jn_24, jn_25, jn_26, jn_27, jn_28, jn_29, jn_30, jn_31, jn_32, jn_33, jn_34, jn_35, jn_36, jn_37, jn_38, jn_39, jn_40, jn_41, jn_42, jn_43, jn_44, jn_50, js_0, js_1, js_2, js_3, js_4, js_5, js_6, js_7, js_8, js_9, js_10, js_11, js_12, js_13, js_14, js_15, js_16, js_20, js_21, js_22, js_23, js_24, js_25, js_26, js_27, js_28, js_29, js_30, js_31, js_32, js_33, js_34, js_35, js_36, js_37, js_38, js_39, js_40, js_41, js_42, js_43, js_44, js_50, bd_0, bd_1, bd_2, bd_3, let_e, nz_0, nz_1, nz_n0, nz_n1, ix_n, nl_0, nl_1, nl_2, nl_3, nl_4, nl_5, nl_6, nl_7, nl_8, nl_9, nl_10, nl_11, nl_12, nl_16, nl_40, nl_64, nl_200, nl_1000, nl_m, nl_m2, nar_0, nar_1, nI_cl, nI_E, nI_L, nI_T, nI_m, nI_m', nI_ng, nN_lt, nN_le, nI_add, pk_mul, nI_S, nI_R4, nI_R64, nI_32, st_eq, st_k, st_j, if_true, if_false, Nat.not_lt_zero, Nat.zero_le]
      · rw [if_neg e11]
        simp +decide (disch := omega) only [f_LA_deliver, f_LA_deliver_b22, f_LA_deliver_b135, f_Po_part, k_rk hR hs hi, a0, a1, a2, a3, a4, a5, f1, u1, e11, Nat.add_zero, jn_0, jn_1, jn_2, jn_3, jn_4, jn_5, jn_6, jn_7, jn_8, jn_9, jn_10, jn_11, jn_12, jn_13, jn_14, jn_15, jn_16, jn_20, jn_21, jn_22, jn_23, jn_24, jn_25, jn_26, jn_27, jn_28, jn_29, jn_30, jn_31, jn_32, jn_33, jn_34, jn_35, jn_36, jn_37, jn_38, jn_39, jn_40, jn_41, jn_42, jn_43, jn_44, jn_50, js_0, js_1, js_2, js_3, js_4, js_5, js_6, js_7, js_8, js_9, js_10, js_11, js_12, js_13, js_14, js_15, js_16, js_20, js_21, js_22, js_23, js_24, js_25, js_26, js_27, js_28, js_29, js_30, js_31, js_32, js_33, js_34, js_35, js_36, js_37, js_38, js_39, js_40, js_41, js_42, js_43, js_44, js_50, bd_0, bd_1, bd_2, bd_3, let_e, nz_0, nz_1, nz_n0, nz_n1, ix_n, nl_0, nl_1, nl_2, nl_3, nl_4, nl_5, nl_6, nl_7, nl_8, nl_9, nl_10, nl_11, nl_12, nl_16, nl_40, nl_64, nl_200, nl_1000, nl_m, nl_m2, nar_0, nar_1, nI_cl, nI_E, nI_L, nI_T, nI_m, nI_m', nI_ng, nN_lt, nN_le, nI_add, pk_mul, nI_S, nI_R4, nI_R64, nI_32, st_eq, st_k, st_j, if_true, if_false, Nat.not_lt_zero, Nat.zero_le]
    · have e' : A 10 i 0 = 1 := by omega
      rw [e'] at a0
      by_cases e11 : A 11 (A 10 i 2) 0 = 0
      · rw [if_pos e11, if_neg e]
        simp +decide (disch := omega) only [f_LA_deliver, f_LA_deliver_b22, f_LA_deliver_b135, f_Po_part, k_rk hR hs hi, a0, a1, a2, a3, a4, a5, f1, u1, e11, Nat.add_zero, jn_0, jn_1, jn_2, jn_3, jn_4, jn_5, jn_6, jn_7, jn_8, jn_9, jn_10, jn_11, jn_12, jn_13, jn_14, jn_15, jn_16, jn_20, jn_21, jn_22, jn_23, jn_24, jn_25, jn_26, jn_27, jn_28, jn_29, jn_30, jn_31, jn_32, jn_33, jn_34, jn_35, jn_36, jn_37, jn_38, jn_39, jn_40, jn_41, jn_42, jn_43, jn_44, jn_50, js_0, js_1, js_2, js_3, js_4, js_5, js_6, js_7, js_8, js_9, js_10, js_11, js_12, js_13, js_14, js_15, js_16, js_20, js_21, js_22, js_23, js_24, js_25, js_26, js_27, js_28, js_29, js_30, js_31, js_32, js_33, js_34, js_35, js_36, js_37, js_38, js_39, js_40, js_41, js_42, js_43, js_44, js_50, bd_0, bd_1, bd_2, bd_3, let_e, nz_0, nz_1, nz_n0, nz_n1, ix_n, nl_0, nl_1, nl_2, nl_3, nl_4, nl_5, nl_6, nl_7, nl_8, nl_9, nl_10, nl_11, nl_12, nl_16, nl_40, nl_64, nl_200, nl_1000, nl_m, nl_m2, nar_0, nar_1, nI_cl, nI_E, nI_L, nI_T, nI_m, nI_m', nI_ng, nN_lt, nN_le, nI_add, pk_mul, nI_S, nI_R4, nI_R64, nI_32, st_eq, st_k, st_j, if_true, if_false, Nat.not_lt_zero, Nat.zero_le]
        rfl
      · rw [if_neg e11]
        simp +decide (disch := omega) only [f_LA_deliver, f_LA_deliver_b22, f_LA_deliver_b135, f_Po_part, k_rk hR hs hi, a0, a1, a2, a3, a4, a5, f1, u1, e11, Nat.add_zero, jn_0, jn_1, jn_2, jn_3, jn_4, jn_5, jn_6, jn_7, jn_8, jn_9, jn_10, jn_11, jn_12, jn_13, jn_14, jn_15, jn_16, jn_20, jn_21, jn_22, jn_23, jn_24, jn_25, jn_26, jn_27, jn_28, jn_29, jn_30, jn_31, jn_32, jn_33, jn_34, jn_35, jn_36, jn_37, jn_38, jn_39, jn_40, jn_41, jn_42, jn_43, jn_44, jn_50, js_0, js_1, js_2, js_3, js_4, js_5, js_6, js_7, js_8, js_9, js_10, js_11, js_12, js_13, js_14, js_15, js_16, js_20, js_21, js_22, js_23, js_24, js_25, js_26, js_27, js_28, js_29, js_30, js_31, js_32, js_33, js_34, js_35, js_36, js_37, js_38, js_39, js_40, js_41, js_42, js_43, js_44, js_50, bd_0, bd_1, bd_2, bd_3, let_e, nz_0, nz_1, nz_n0, nz_n1, ix_n, nl_0, nl_1, nl_2, nl_3, nl_4, nl_5, nl_6, nl_7, nl_8, nl_9, nl_10, nl_11, nl_12, nl_16, nl_40, nl_64, nl_200, nl_1000, nl_m, nl_m2, nar_0, nar_1, nI_cl, nI_E, nI_L, nI_T, nI_m, nI_m', nI_ng, nN_lt, nN_le, nI_add, pk_mul, nI_S, nI_R4, nI_R64, nI_32, st_eq, st_k, st_j, if_true, if_false, Nat.not_lt_zero, Nat.zero_le]
  -- the reference, as far
  have mst : ∀ M, Rm n sh M A → ∃ M1, Rm n sh M1 (sRem A i) ∧ M1 50 = M 50 ∧ M1 20 0 0 = nI 0 ∧ ∀ C0 : mm_M, f_Mo_deliver n (jn C0 M) 0 (nI i) = (if A 11 (A 10 i 2) 0 = 0 then (if A 10 i 0 = 0 then (if A 10 i 3 = A 6 (dr (pa3 sh) (A 10 i 1) (A 10 i 2)) 2 then f_Mo_deliver_b195 n (jn C0 M1) 0 (nI (A 10 i 1)) (nI (A 10 i 2)) (nI (A 10 i 3)) (zf (A 10 i 4)) (zf (A 10 i 5)) (nI (dr (pa3 sh) (A 10 i 1) (A 10 i 2))) (nI 1) else f_Mo_deliver_b195 n (jn C0 M1) 0 (nI (A 10 i 1)) (nI (A 10 i 2)) (nI (A 10 i 3)) (zf (A 10 i 4)) (zf (A 10 i 5)) (nI (dr (pa3 sh) (A 10 i 1) (A 10 i 2))) (nI 0)) else (if A 6 (dr (pa3 sh) (A 10 i 2) (A 10 i 1)) 1 = A 6 (dr (pa3 sh) (A 10 i 2) (A 10 i 1)) 0 then some (0, nI 4, jn C0 M1) else (if A 6 (dr (pa3 sh) (A 10 i 2) (A 10 i 1)) 0 = A 10 i 3 then (if A 6 (dr (pa3 sh) (A 10 i 2) (A 10 i 1)) 1 ≤ A 6 (dr (pa3 sh) (A 10 i 2) (A 10 i 1)) 0 + 1 then some (0, nI 3, jn C0 (mm_st M1 34 0 (dr (pa3 sh) (A 10 i 2) (A 10 i 1)) (nI (A 6 (dr (pa3 sh) (A 10 i 2) (A 10 i 1)) 0 + 1)))) else mm_bd (f_Mo_postFirst n (jn C0 (mm_st M1 34 0 (dr (pa3 sh) (A 10 i 2) (A 10 i 1)) (nI (A 6 (dr (pa3 sh) (A 10 i 2) (A 10 i 1)) 0 + 1)))) 0 (nI (A 10 i 2)) (nI (A 10 i 1))) 0 (fun z15 g16 => some (0, nI 3, g16))) else some (0, nI 4, jn C0 M1)))) else some (0, nI 0, jn C0 M1)) := fun M hM => by
    obtain ⟨M1, m1, r1, r2, r3⟩ := q_rem (Rm_th (v := nI 0) hM) hs hi
    refine ⟨M1, r1, by rw [r2, st_k (by decide)], by rw [r3, st_eq], fun C0 => ?_⟩
    have b := hM.2.2.2.1.2 i hi
    have m11 := r1.2.2.2.2.1 (A 10 i 2) k2
    rw [g 11 (by decide) (by decide)] at m11
    have l1 := r1.2.2.1.1 _ hd1
    have l2 := r1.2.2.1.1 _ hd2
    rw [g 6 (by decide) (by decide)] at l1 l2
    have dir1 := q_dir r1 hn k1 k2
    have dir2 := q_dir r1 hn k2 k1
    have st0 : f_Mo_deliver n (jn C0 M) 0 (nI i) = f_Mo_deliver_b14 n (jn C0 M) 0 (nI i) 0 (nI 0) := by
      simp +decide (disch := omega) only [f_Mo_deliver, q_ik hM hs hi, jn_0, jn_1, jn_2, jn_3, jn_4, jn_5, jn_6, jn_7, jn_8, jn_9, jn_10, jn_11, jn_12, jn_13, jn_14, jn_15, jn_16, jn_20, jn_21, jn_22, jn_23, jn_24, jn_25, jn_26, jn_27, jn_28, jn_29, jn_30, jn_31, jn_32, jn_33, jn_34, jn_35, jn_36, jn_37, jn_38, jn_39, jn_40, jn_41, jn_42, jn_43, jn_44, jn_50, js_0, js_1, js_2, js_3, js_4, js_5, js_6, js_7, js_8, js_9, js_10, js_11, js_12, js_13, js_14, js_15, js_16, js_20, js_21, js_22, js_23, js_24, js_25, js_26, js_27, js_28, js_29, js_30, js_31, js_32, js_33, js_34, js_35, js_36, js_37, js_38, js_39, js_40, js_41, js_42, js_43, js_44, js_50, bd_0, bd_1, bd_2, bd_3, let_e, nz_0, nz_1, nz_n0, nz_n1, ix_n, nl_0, nl_1, nl_2, nl_3, nl_4, nl_5, nl_6, nl_7, nl_8, nl_9, nl_10, nl_11, nl_12, nl_16, nl_40, nl_64, nl_200, nl_1000, nl_m, nl_m2, nar_0, nar_1, nI_cl, nI_E, nI_L, nI_T, nI_m, nI_m', nI_ng, nN_lt, nN_le, nI_add, pk_mul, nI_S, nI_R4, nI_R64, nI_32, st_eq, st_k, st_j, if_true, if_false, Nat.not_lt_zero, Nat.zero_le]
    rw [st0]
    unfold f_Mo_deliver_b14
    have h0 : f_Mo_refused n (jn C0 M) 0 (nI 0) 0 0 = some (0, nI 0, jn C0 (mm_st M 20 0 0 (nI 0))) := q_r0 C0 M
    rw [h0, bd_0]
    generalize hdd1 : dr (pa3 sh) (A 10 i 1) (A 10 i 2) = d1 at *
    generalize hdd2 : dr (pa3 sh) (A 10 i 2) (A 10 i 1) = d2 at *
    have n1 : A 6 d1 2 < 2147483648 := by omega
    have n2 : A 6 d2 0 < 2147483647 := by omega
    have n3 : A 6 d2 1 < 2147483647 := by omega
    by_cases e11 : A 11 (A 10 i 2) 0 = 0
    · rw [if_pos e11]
      by_cases e : A 10 i 0 = 0
      · rw [if_pos e]
        by_cases ef : A 10 i 3 = A 6 d1 2
        · rw [if_pos ef]
          simp +decide (maxSteps := 1000000) (disch := omega) only [m1, b.1, b.2.1, b.2.2.1, b.2.2.2.1, b.2.2.2.2.1, b.2.2.2.2.2, m11, e11, e, dir1, l1.2.2.1, ef, jn_0, jn_1, jn_2, jn_3, jn_4, jn_5, jn_6, jn_7, jn_8, jn_9, jn_10, jn_11, jn_12, jn_13, jn_14, jn_15, jn_16, jn_20, jn_21, jn_22, jn_23, jn_24, jn_25, jn_26, jn_27, jn_28, jn_29, jn_30, jn_31, jn_32, jn_33, jn_34, jn_35, jn_36, jn_37, jn_38, jn_39, jn_40, jn_41, jn_42, jn_43, jn_44, jn_50, js_0, js_1, js_2, js_3, js_4, js_5, js_6, js_7, js_8, js_9, js_10, js_11, js_12, js_13, js_14, js_15, js_16, js_20, js_21, js_22, js_23, js_24, js_25, js_26, js_27, js_28, js_29, js_30, js_31, js_32, js_33, js_34, js_35, js_36, js_37, js_38, js_39, js_40, js_41, js_42, js_43, js_44, js_50, bd_0, bd_1, bd_2, bd_3, let_e, nz_0, nz_1, nz_n0, nz_n1, ix_n, nl_0, nl_1, nl_2, nl_3, nl_4, nl_5, nl_6, nl_7, nl_8, nl_9, nl_10, nl_11, nl_12, nl_16, nl_40, nl_64, nl_200, nl_1000, nl_m, nl_m2, nar_0, nar_1, nI_cl, nI_E, nI_L, nI_T, nI_m, nI_m', nI_ng, nN_lt, nN_le, nI_add, pk_mul, nI_S, nI_R4, nI_R64, nI_32, st_eq, st_k, st_j, if_true, if_false, Nat.not_lt_zero, Nat.zero_le]
        · rw [if_neg ef]
          simp +decide (maxSteps := 1000000) (disch := omega) only [m1, b.1, b.2.1, b.2.2.1, b.2.2.2.1, b.2.2.2.2.1, b.2.2.2.2.2, m11, e11, e, dir1, l1.2.2.1, ef, jn_0, jn_1, jn_2, jn_3, jn_4, jn_5, jn_6, jn_7, jn_8, jn_9, jn_10, jn_11, jn_12, jn_13, jn_14, jn_15, jn_16, jn_20, jn_21, jn_22, jn_23, jn_24, jn_25, jn_26, jn_27, jn_28, jn_29, jn_30, jn_31, jn_32, jn_33, jn_34, jn_35, jn_36, jn_37, jn_38, jn_39, jn_40, jn_41, jn_42, jn_43, jn_44, jn_50, js_0, js_1, js_2, js_3, js_4, js_5, js_6, js_7, js_8, js_9, js_10, js_11, js_12, js_13, js_14, js_15, js_16, js_20, js_21, js_22, js_23, js_24, js_25, js_26, js_27, js_28, js_29, js_30, js_31, js_32, js_33, js_34, js_35, js_36, js_37, js_38, js_39, js_40, js_41, js_42, js_43, js_44, js_50, bd_0, bd_1, bd_2, bd_3, let_e, nz_0, nz_1, nz_n0, nz_n1, ix_n, nl_0, nl_1, nl_2, nl_3, nl_4, nl_5, nl_6, nl_7, nl_8, nl_9, nl_10, nl_11, nl_12, nl_16, nl_40, nl_64, nl_200, nl_1000, nl_m, nl_m2, nar_0, nar_1, nI_cl, nI_E, nI_L, nI_T, nI_m, nI_m', nI_ng, nN_lt, nN_le, nI_add, pk_mul, nI_S, nI_R4, nI_R64, nI_32, st_eq, st_k, st_j, if_true, if_false, Nat.not_lt_zero, Nat.zero_le]
      · rw [if_neg e]
        have e' : A 10 i 0 = 1 := by omega
        by_cases g1 : A 6 d2 1 = A 6 d2 0
        · rw [if_pos g1]
          simp +decide (maxSteps := 1000000) (disch := omega) only [m1, b.1, b.2.1, b.2.2.1, b.2.2.2.1, b.2.2.2.2.1, b.2.2.2.2.2, m11, e11, e', dir2, l2.1, l2.2.1, f_Mo_deliver_b130, g1, jn_0, jn_1, jn_2, jn_3, jn_4, jn_5, jn_6, jn_7, jn_8, jn_9, jn_10, jn_11, jn_12, jn_13, jn_14, jn_15, jn_16, jn_20, jn_21, jn_22, jn_23, jn_24, jn_25, jn_26, jn_27, jn_28, jn_29, jn_30, jn_31, jn_32, jn_33, jn_34, jn_35, jn_36, jn_37, jn_38, jn_39, jn_40, jn_41, jn_42, jn_43, jn_44, jn_50, js_0, js_1, js_2, js_3, js_4, js_5, js_6, js_7, js_8, js_9, js_10, js_11, js_12, js_13, js_14, js_15, js_16, js_20, js_21, js_22, js_23, js_24, js_25, js_26, js_27, js_28, js_29, js_30, js_31, js_32, js_33, js_34, js_35, js_36, js_37, js_38, js_39, js_40, js_41, js_42, js_43, js_44, js_50, bd_0, bd_1, bd_2, bd_3, let_e, nz_0, nz_1, nz_n0, nz_n1, ix_n, nl_0, nl_1, nl_2, nl_3, nl_4, nl_5, nl_6, nl_7, nl_8, nl_9, nl_10, nl_11, nl_12, nl_16, nl_40, nl_64, nl_200, nl_1000, nl_m, nl_m2, nar_0, nar_1, nI_cl, nI_E, nI_L, nI_T, nI_m, nI_m', nI_ng, nN_lt, nN_le, nI_add, pk_mul, nI_S, nI_R4, nI_R64, nI_32, st_eq, st_k, st_j, if_true, if_false, Nat.not_lt_zero, Nat.zero_le]
        · rw [if_neg g1]
          by_cases g2 : A 6 d2 0 = A 10 i 3
          · rw [if_pos g2]
            by_cases g3 : A 6 d2 1 ≤ A 6 d2 0 + 1
            · rw [if_pos g3]
              rw [← g2] at b
              simp +decide (maxSteps := 1000000) (disch := omega) only [m1, b.1, b.2.1, b.2.2.1, b.2.2.2.1, b.2.2.2.2.1, b.2.2.2.2.2, m11, e11, e', dir2, l2.1, l2.2.1, f_Mo_deliver_b130, f_Mo_deliver_b167, g1, g3, jn_0, jn_1, jn_2, jn_3, jn_4, jn_5, jn_6, jn_7, jn_8, jn_9, jn_10, jn_11, jn_12, jn_13, jn_14, jn_15, jn_16, jn_20, jn_21, jn_22, jn_23, jn_24, jn_25, jn_26, jn_27, jn_28, jn_29, jn_30, jn_31, jn_32, jn_33, jn_34, jn_35, jn_36, jn_37, jn_38, jn_39, jn_40, jn_41, jn_42, jn_43, jn_44, jn_50, js_0, js_1, js_2, js_3, js_4, js_5, js_6, js_7, js_8, js_9, js_10, js_11, js_12, js_13, js_14, js_15, js_16, js_20, js_21, js_22, js_23, js_24, js_25, js_26, js_27, js_28, js_29, js_30, js_31, js_32, js_33, js_34, js_35, js_36, js_37, js_38, js_39, js_40, js_41, js_42, js_43, js_44, js_50, bd_0, bd_1, bd_2, bd_3, let_e, nz_0, nz_1, nz_n0, nz_n1, ix_n, nl_0, nl_1, nl_2, nl_3, nl_4, nl_5, nl_6, nl_7, nl_8, nl_9, nl_10, nl_11, nl_12, nl_16, nl_40, nl_64, nl_200, nl_1000, nl_m, nl_m2, nar_0, nar_1, nI_cl, nI_E, nI_L, nI_T, nI_m, nI_m', nI_ng, nN_lt, nN_le, nI_add, pk_mul, nI_S, nI_R4, nI_R64, nI_32, st_eq, st_k, st_j, if_true, if_false, Nat.not_lt_zero, Nat.zero_le]
            · rw [if_neg g3]
              rw [← g2] at b
              simp +decide (maxSteps := 1000000) (disch := omega) only [m1, b.1, b.2.1, b.2.2.1, b.2.2.2.1, b.2.2.2.2.1, b.2.2.2.2.2, m11, e11, e', dir2, l2.1, l2.2.1, f_Mo_deliver_b130, f_Mo_deliver_b167, g1, g3, jn_0, jn_1, jn_2, jn_3, jn_4, jn_5, jn_6, jn_7, jn_8, jn_9, jn_10, jn_11, jn_12, jn_13, jn_14, jn_15, jn_16, jn_20, jn_21, jn_22, jn_23, jn_24, jn_25, jn_26, jn_27, jn_28, jn_29, jn_30, jn_31, jn_32, jn_33, jn_34, jn_35, jn_36, jn_37, jn_38, jn_39, jn_40, jn_41, jn_42, jn_43, jn_44, jn_50, js_0, js_1, js_2, js_3, js_4, js_5, js_6, js_7, js_8, js_9, js_10, js_11, js_12, js_13, js_14, js_15, js_16, js_20, js_21, js_22, js_23, js_24, js_25, js_26, js_27, js_28, js_29, js_30, js_31, js_32, js_33, js_34, js_35, js_36, js_37, js_38, js_39, js_40, js_41, js_42, js_43, js_44, js_50, bd_0, bd_1, bd_2, bd_3, let_e, nz_0, nz_1, nz_n0, nz_n1, ix_n, nl_0, nl_1, nl_2, nl_3, nl_4, nl_5, nl_6, nl_7, nl_8, nl_9, nl_10, nl_11, nl_12, nl_16, nl_40, nl_64, nl_200, nl_1000, nl_m, nl_m2, nar_0, nar_1, nI_cl, nI_E, nI_L, nI_T, nI_m, nI_m', nI_ng, nN_lt, nN_le, nI_add, pk_mul, nI_S, nI_R4, nI_R64, nI_32, st_eq, st_k, st_j, if_true, if_false, Nat.not_lt_zero, Nat.zero_le]
          · rw [if_neg g2]
            simp +decide (maxSteps := 1000000) (disch := omega) only [m1, b.1, b.2.1, b.2.2.1, b.2.2.2.1, b.2.2.2.2.1, b.2.2.2.2.2, m11, e11, e', dir2, l2.1, l2.2.1, f_Mo_deliver_b130, g1, g2, jn_0, jn_1, jn_2, jn_3, jn_4, jn_5, jn_6, jn_7, jn_8, jn_9, jn_10, jn_11, jn_12, jn_13, jn_14, jn_15, jn_16, jn_20, jn_21, jn_22, jn_23, jn_24, jn_25, jn_26, jn_27, jn_28, jn_29, jn_30, jn_31, jn_32, jn_33, jn_34, jn_35, jn_36, jn_37, jn_38, jn_39, jn_40, jn_41, jn_42, jn_43, jn_44, jn_50, js_0, js_1, js_2, js_3, js_4, js_5, js_6, js_7, js_8, js_9, js_10, js_11, js_12, js_13, js_14, js_15, js_16, js_20, js_21, js_22, js_23, js_24, js_25, js_26, js_27, js_28, js_29, js_30, js_31, js_32, js_33, js_34, js_35, js_36, js_37, js_38, js_39, js_40, js_41, js_42, js_43, js_44, js_50, bd_0, bd_1, bd_2, bd_3, let_e, nz_0, nz_1, nz_n0, nz_n1, ix_n, nl_0, nl_1, nl_2, nl_3, nl_4, nl_5, nl_6, nl_7, nl_8, nl_9, nl_10, nl_11, nl_12, nl_16, nl_40, nl_64, nl_200, nl_1000, nl_m, nl_m2, nar_0, nar_1, nI_cl, nI_E, nI_L, nI_T, nI_m, nI_m', nI_ng, nN_lt, nN_le, nI_add, pk_mul, nI_S, nI_R4, nI_R64, nI_32, st_eq, st_k, st_j, if_true, if_false, Nat.not_lt_zero, Nat.zero_le]
    · rw [if_neg e11]
      simp +decide (maxSteps := 1000000) (disch := omega) only [m1, b.1, b.2.1, b.2.2.1, b.2.2.2.1, b.2.2.2.2.1, b.2.2.2.2.2, m11, e11, jn_0, jn_1, jn_2, jn_3, jn_4, jn_5, jn_6, jn_7, jn_8, jn_9, jn_10, jn_11, jn_12, jn_13, jn_14, jn_15, jn_16, jn_20, jn_21, jn_22, jn_23, jn_24, jn_25, jn_26, jn_27, jn_28, jn_29, jn_30, jn_31, jn_32, jn_33, jn_34, jn_35, jn_36, jn_37, jn_38, jn_39, jn_40, jn_41, jn_42, jn_43, jn_44, jn_50, js_0, js_1, js_2, js_3, js_4, js_5, js_6, js_7, js_8, js_9, js_10, js_11, js_12, js_13, js_14, js_15, js_16, js_20, js_21, js_22, js_23, js_24, js_25, js_26, js_27, js_28, js_29, js_30, js_31, js_32, js_33, js_34, js_35, js_36, js_37, js_38, js_39, js_40, js_41, js_42, js_43, js_44, js_50, bd_0, bd_1, bd_2, bd_3, let_e, nz_0, nz_1, nz_n0, nz_n1, ix_n, nl_0, nl_1, nl_2, nl_3, nl_4, nl_5, nl_6, nl_7, nl_8, nl_9, nl_10, nl_11, nl_12, nl_16, nl_40, nl_64, nl_200, nl_1000, nl_m, nl_m2, nar_0, nar_1, nI_cl, nI_E, nI_L, nI_T, nI_m, nI_m', nI_ng, nN_lt, nN_le, nI_add, pk_mul, nI_S, nI_R4, nI_R64, nI_32, st_eq, st_k, st_j, if_true, if_false, Nat.not_lt_zero, Nat.zero_le]
  by_cases e11 : A 11 (A 10 i 2) 0 = 0
  · by_cases e : A 10 i 0 = 0
    · -- a letter
      obtain ⟨k4a, k4b⟩ := k4 e
      have hd4 := k4b
      obtain ⟨s1, s2, s3, s4, s5⟩ := dr_up (n := n) (pa3_lt sh) k1 k2 k3
      by_cases ef : A 10 i 3 = A 6 (dr (pa3 sh) (A 10 i 1) (A 10 i 2)) 2
      · -- the next one: it is taken
        obtain ⟨q1, q2, q3⟩ := k4b (by omega)
        have pt := Pr_take hn P1' (d := dr (pa3 sh) (A 10 i 1) (A 10 i 2)) hd1 (by rw [g 6 (by decide) (by decide)]; omega) (by rw [g 6 (by decide) (by decide)]; omega)
        have k4x := fun hne => open_ok hn hT P1' (c := A 10 i 4) (l := A 10 i 2) (by have := pt.2.2.2.1; rw [g 6 (by decide) (by decide), g 7 (by decide) (by decide), ← ef, ← q2] at this; exact this) k2 (by have := pt.2.2.2.2.2.1; rw [g 6 (by decide) (by decide), g 7 (by decide) (by decide), ← ef, ← q2] at this; exact this) hne
        rw [s1, s2] at pt
        simp only [g 6 (by decide) (by decide), g 7 (by decide) (by decide), g 8 (by decide) (by decide), g 2 (by decide) (by decide), g 5 (by decide) (by decide)] at pt k4x
        rw [← ef, ← q2, ← q3] at pt
        obtain ⟨t1, -, -, t4, t5, t6, t7⟩ := pt
        generalize hdd : dr (pa3 sh) (A 10 i 1) (A 10 i 2) = d at *
        have pd := Rp_du p1 hd1 (v := nI (A 6 d 2 + 1)) (x := A 6 d 2 + 1) rfl
        have h9 : as (sRem A i) 6 d 2 (A 6 d 2 + 1) 9 0 0 ≤ 40 := by
          rw [as_f (by decide)]
          exact P1'.2.2.2.1.1
        have tt7 : as (sRem A i) 6 d 2 (A 6 d 2 + 1) 2 (A 10 i 4) (A 10 i 2) < n := by
          rw [as_f (by decide), g 2 (by decide) (by decide)]
          exact t7
        have tt4 : as (sRem A i) 6 d 2 (A 6 d 2 + 1) 4 (A 10 i 4) (A 10 i 2) ≤ 4 := by
          rw [as_f (by decide), g 4 (by decide) (by decide)]
          exact (hP.1 _ _ t4 k2).2.1
        have tt5 : as (sRem A i) 6 d 2 (A 6 d 2 + 1) 5 (A 10 i 4) 0 ≠ 99 := by
          rw [as_f (by decide), g 5 (by decide) (by decide)]
          exact t6
        have hp : as (sRem A i) 6 d 2 (A 6 d 2 + 1) 2 (A 10 i 4) (A 10 i 2) ≠ A 10 i 2 → as (sRem A i) 6 d 2 (A 6 d 2 + 1) 6 (dr (pa3 sh) (A 10 i 2) (as (sRem A i) 6 d 2 (A 6 d 2 + 1) 2 (A 10 i 4) (A 10 i 2))) 0 ≤ as (sRem A i) 6 d 2 (A 6 d 2 + 1) 6 (dr (pa3 sh) (A 10 i 2) (as (sRem A i) 6 d 2 (A 6 d 2 + 1) 2 (A 10 i 4) (A 10 i 2))) 1 ∧ as (sRem A i) 6 d 2 (A 6 d 2 + 1) 6 (dr (pa3 sh) (A 10 i 2) (as (sRem A i) 6 d 2 (A 6 d 2 + 1) 2 (A 10 i 4) (A 10 i 2))) 1 < as (sRem A i) 6 d 2 (A 6 d 2 + 1) 6 (dr (pa3 sh) (A 10 i 2) (as (sRem A i) 6 d 2 (A 6 d 2 + 1) 2 (A 10 i 4) (A 10 i 2))) 0 + 4 ∧ as (sRem A i) 6 d 2 (A 6 d 2 + 1) 6 (dr (pa3 sh) (A 10 i 2) (as (sRem A i) 6 d 2 (A 6 d 2 + 1) 2 (A 10 i 4) (A 10 i 2))) 1 < 1000000 := fun hne => by
          rw [as_f (show 2 ≠ 6 by decide), g 2 (by decide) (by decide)] at hne ⊢
          have y := k4x hne
          simp only [as_ap, g 6 (by decide) (by decide), show ¬ (0 = 2) by decide, show ¬ (1 = 2) by decide, and_false, if_false]
          exact ⟨y.2.2.1, y.2.2.2.1, y.2.2.2.2⟩
        obtain ⟨C2, f2, p2⟩ := k_take pd hn h9 t4 k1 k2 t5 tt7 tt4 hp
        have P3 : Pr n sh (T + 1) (sPut (sTake sh (as (sRem A i) 6 d 2 (A 6 d 2 + 1)) (A 10 i 1) (A 10 i 2) (A 10 i 4) (A 10 i 5)) 1 (A 10 i 2) (A 10 i 1) (A 10 i 3) 99 99) := by
          refine Pr_put ?_ ⟨by omega, k2, k1, nb_comm k3, fun w => by omega, fun _ => ?_⟩
          · rw [← ef]
            exact t1
          · rw [hdd, sTake_62, as_e]
            omega
        have h9' : sTake sh (as (sRem A i) 6 d 2 (A 6 d 2 + 1)) (A 10 i 1) (A 10 i 2) (A 10 i 4) (A 10 i 5) 9 0 0 ≤ 40 := by
          have := t1.2.2.2.1.1
          rw [← ef]
          exact this
        obtain ⟨C3, f3, p3⟩ := k_put p2 h9' 1 (A 10 i 2) (A 10 i 1) (A 10 i 3) 99 99
        refine ⟨0, nI 1, C3, _, by simp, fun M => ?_, p3, P3, fun M hM => ?_⟩
        · have tn := k_tn p1 hn k1 k2 (by rw [hdd, g 6 (by decide) (by decide)]; omega) M
          rw [hdd, g 6 (by decide) (by decide), ← ef] at tn
          have f2 := f2 M
          have f3 := f3 M
          rw [← ef] at f2
          rw [zf_99] at f3
          show f_LA_deliver n (jn C M) 0 (nI i) = _
          rw [cst, if_pos e11, if_pos e, zf_n (show A 10 i 4 ≠ 99 by omega), zf_n (show A 10 i 5 ≠ 99 by omega)]
          simp +decide (disch := omega) only [f_LA_receiveLetter, f_LA_receiveLetter_b27, f_LA_receiveLetter_b50, tn, f2, f3, jn_0, jn_1, jn_2, jn_3, jn_4, jn_5, jn_6, jn_7, jn_8, jn_9, jn_10, jn_11, jn_12, jn_13, jn_14, jn_15, jn_16, jn_20, jn_21, jn_22, jn_23, jn_24, jn_25, jn_26, jn_27, jn_28, jn_29, jn_30, jn_31, jn_32, jn_33, jn_34, jn_35, jn_36, jn_37, jn_38, jn_39, jn_40, jn_41, jn_42, jn_43, jn_44, jn_50, js_0, js_1, js_2, js_3, js_4, js_5, js_6, js_7, js_8, js_9, js_10, js_11, js_12, js_13, js_14, js_15, js_16, js_20, js_21, js_22, js_23, js_24, js_25, js_26, js_27, js_28, js_29, js_30, js_31, js_32, js_33, js_34, js_35, js_36, js_37, js_38, js_39, js_40, js_41, js_42, js_43, js_44, js_50, bd_0, bd_1, bd_2, bd_3, let_e, nz_0, nz_1, nz_n0, nz_n1, ix_n, nl_0, nl_1, nl_2, nl_3, nl_4, nl_5, nl_6, nl_7, nl_8, nl_9, nl_10, nl_11, nl_12, nl_16, nl_40, nl_64, nl_200, nl_1000, nl_m, nl_m2, nar_0, nar_1, nI_cl, nI_E, nI_L, nI_T, nI_m, nI_m', nI_ng, nN_lt, nN_le, nI_add, pk_mul, nI_S, nI_R4, nI_R64, nI_32, st_eq, st_k, st_j, if_true, if_false, Nat.not_lt_zero, Nat.zero_le]
        · obtain ⟨M1, r1, r2, r3, r4⟩ := mst M hM
          have pm := Rm_du r1 hd1 (v := nI (A 6 d 2 + 1)) (x := A 6 d 2 + 1) rfl
          obtain ⟨M2, m2, y1, y2, y3⟩ := q_take pm hn h9 t4 k1 k2 t5 tt5 tt7 tt4 hp
          obtain ⟨M3, m3, w1, w2, w3⟩ := q_put y1 h9' 1 (A 10 i 2) (A 10 i 1) (A 10 i 3) 99 99
          have ld := (r1.2.2.1.1 d hd1).2.2.1
          rw [g 6 (by decide) (by decide)] at ld
          refine ⟨nI 1, M3, ?_, w1, by rw [w2, y2, st_k (by decide), r2], by rw [w3, y3, st_k (by decide), r3]; rfl, fun _ => rfl⟩
          have m2 := m2 C3
          have m3 := m3 C3
          rw [zf_99] at m3
          show f_Mo_deliver n (jn C3 M) 0 (nI i) = _
          rw [r4, if_pos e11, if_pos e, if_pos ef, zf_n (show A 10 i 4 ≠ 99 by omega), zf_n (show A 10 i 5 ≠ 99 by omega)]
          simp +decide (disch := omega) only [f_Mo_deliver_b195, f_Mo_deliver_b224, f_Mo_deliver_b247, ld, m2, m3, jn_0, jn_1, jn_2, jn_3, jn_4, jn_5, jn_6, jn_7, jn_8, jn_9, jn_10, jn_11, jn_12, jn_13, jn_14, jn_15, jn_16, jn_20, jn_21, jn_22, jn_23, jn_24, jn_25, jn_26, jn_27, jn_28, jn_29, jn_30, jn_31, jn_32, jn_33, jn_34, jn_35, jn_36, jn_37, jn_38, jn_39, jn_40, jn_41, jn_42, jn_43, jn_44, jn_50, js_0, js_1, js_2, js_3, js_4, js_5, js_6, js_7, js_8, js_9, js_10, js_11, js_12, js_13, js_14, js_15, js_16, js_20, js_21, js_22, js_23, js_24, js_25, js_26, js_27, js_28, js_29, js_30, js_31, js_32, js_33, js_34, js_35, js_36, js_37, js_38, js_39, js_40, js_41, js_42, js_43, js_44, js_50, bd_0, bd_1, bd_2, bd_3, let_e, nz_0, nz_1, nz_n0, nz_n1, ix_n, nl_0, nl_1, nl_2, nl_3, nl_4, nl_5, nl_6, nl_7, nl_8, nl_9, nl_10, nl_11, nl_12, nl_16, nl_40, nl_64, nl_200, nl_1000, nl_m, nl_m2, nar_0, nar_1, nI_cl, nI_E, nI_L, nI_T, nI_m, nI_m', nI_ng, nN_lt, nN_le, nI_add, pk_mul, nI_S, nI_R4, nI_R64, nI_32, st_eq, st_k, st_j, if_true, if_false, Nat.not_lt_zero, Nat.zero_le]
      · -- not the next one
        obtain ⟨C3, f3, p3⟩ := k_put p1 P1'.2.2.2.1.1 1 (A 10 i 2) (A 10 i 1) (A 10 i 3) 99 99
        have P3 : Pr n sh T (sPut (sRem A i) 1 (A 10 i 2) (A 10 i 1) (A 10 i 3) 99 99) := by
          refine Pr_put P1' ⟨by omega, k2, k1, nb_comm k3, fun w => by omega, fun _ => ?_⟩
          rw [g 6 (by decide) (by decide)]
          omega
        refine ⟨0, nI 2, C3, _, by simp, fun M => ?_, p3, Pr_up P3 (Nat.le_succ T), fun M hM => ?_⟩
        · have tn := k_tnn p1 hn k1 k2 (by rw [g 6 (by decide) (by decide)]; omega) hnu (by rw [g 6 (by decide) (by decide)]; exact ef) M
          have f3 := f3 M
          rw [zf_99] at f3
          show f_LA_deliver n (jn C M) 0 (nI i) = _
          rw [cst, if_pos e11, if_pos e]
          simp +decide (disch := omega) only [f_LA_receiveLetter, f_LA_receiveLetter_b27, f_LA_receiveLetter_b50, tn, f3, jn_0, jn_1, jn_2, jn_3, jn_4, jn_5, jn_6, jn_7, jn_8, jn_9, jn_10, jn_11, jn_12, jn_13, jn_14, jn_15, jn_16, jn_20, jn_21, jn_22, jn_23, jn_24, jn_25, jn_26, jn_27, jn_28, jn_29, jn_30, jn_31, jn_32, jn_33, jn_34, jn_35, jn_36, jn_37, jn_38, jn_39, jn_40, jn_41, jn_42, jn_43, jn_44, jn_50, js_0, js_1, js_2, js_3, js_4, js_5, js_6, js_7, js_8, js_9, js_10, js_11, js_12, js_13, js_14, js_15, js_16, js_20, js_21, js_22, js_23, js_24, js_25, js_26, js_27, js_28, js_29, js_30, js_31, js_32, js_33, js_34, js_35, js_36, js_37, js_38, js_39, js_40, js_41, js_42, js_43, js_44, js_50, bd_0, bd_1, bd_2, bd_3, let_e, nz_0, nz_1, nz_n0, nz_n1, ix_n, nl_0, nl_1, nl_2, nl_3, nl_4, nl_5, nl_6, nl_7, nl_8, nl_9, nl_10, nl_11, nl_12, nl_16, nl_40, nl_64, nl_200, nl_1000, nl_m, nl_m2, nar_0, nar_1, nI_cl, nI_E, nI_L, nI_T, nI_m, nI_m', nI_ng, nN_lt, nN_le, nI_add, pk_mul, nI_S, nI_R4, nI_R64, nI_32, st_eq, st_k, st_j, if_true, if_false, Nat.not_lt_zero, Nat.zero_le]
        · obtain ⟨M1, r1, r2, r3, r4⟩ := mst M hM
          obtain ⟨M3, m3, w1, w2, w3⟩ := q_put r1 P1'.2.2.2.1.1 1 (A 10 i 2) (A 10 i 1) (A 10 i 3) 99 99
          refine ⟨nI 2, M3, ?_, w1, by rw [w2, r2], by rw [w3, r3]; rfl, fun _ => rfl⟩
          have m3 := m3 C3
          rw [zf_99] at m3
          show f_Mo_deliver n (jn C3 M) 0 (nI i) = _
          rw [r4, if_pos e11, if_pos e, if_neg ef]
          simp +decide (disch := omega) only [f_Mo_deliver_b195, f_Mo_deliver_b224, f_Mo_deliver_b247, m3, jn_0, jn_1, jn_2, jn_3, jn_4, jn_5, jn_6, jn_7, jn_8, jn_9, jn_10, jn_11, jn_12, jn_13, jn_14, jn_15, jn_16, jn_20, jn_21, jn_22, jn_23, jn_24, jn_25, jn_26, jn_27, jn_28, jn_29, jn_30, jn_31, jn_32, jn_33, jn_34, jn_35, jn_36, jn_37, jn_38, jn_39, jn_40, jn_41, jn_42, jn_43, jn_44, jn_50, js_0, js_1, js_2, js_3, js_4, js_5, js_6, js_7, js_8, js_9, js_10, js_11, js_12, js_13, js_14, js_15, js_16, js_20, js_21, js_22, js_23, js_24, js_25, js_26, js_27, js_28, js_29, js_30, js_31, js_32, js_33, js_34, js_35, js_36, js_37, js_38, js_39, js_40, js_41, js_42, js_43, js_44, js_50, bd_0, bd_1, bd_2, bd_3, let_e, nz_0, nz_1, nz_n0, nz_n1, ix_n, nl_0, nl_1, nl_2, nl_3, nl_4, nl_5, nl_6, nl_7, nl_8, nl_9, nl_10, nl_11, nl_12, nl_16, nl_40, nl_64, nl_200, nl_1000, nl_m, nl_m2, nar_0, nar_1, nI_cl, nI_E, nI_L, nI_T, nI_m, nI_m', nI_ng, nN_lt, nN_le, nI_add, pk_mul, nI_S, nI_R4, nI_R64, nI_32, st_eq, st_k, st_j, if_true, if_false, Nat.not_lt_zero, Nat.zero_le]
    · -- an acknowledgement
      have e' : A 10 i 0 = 1 := by omega
      have k5' := k5 e'
      by_cases mv : A 6 (dr (pa3 sh) (A 10 i 2) (A 10 i 1)) 0 < A 6 (dr (pa3 sh) (A 10 i 2) (A 10 i 1)) 1 ∧ A 6 (dr (pa3 sh) (A 10 i 2) (A 10 i 1)) 0 = A 10 i 3
      · obtain ⟨C2, f2, p2⟩ := k_ack p1 hn (by omega) P1' k1 k2 (by rw [g 6 (by decide) (by decide)]; exact mv.1)
        have P3 := Pr_sAck P1' k1 k2 (nb_comm k3) (by rw [g 6 (by decide) (by decide)]; exact mv.1) (by rw [g 6 (by decide) (by decide)]; omega)
        refine ⟨0, nI 3, C2, _, by simp, fun M => ?_, p2, Pr_up P3 (Nat.le_succ T), fun M hM => ?_⟩
        · have f2 := f2 M
          rw [g 6 (by decide) (by decide), mv.2] at f2
          show f_LA_deliver n (jn C M) 0 (nI i) = _
          rw [cst, if_pos e11, if_neg e]
          simp +decide (disch := omega) only [f2, jn_0, jn_1, jn_2, jn_3, jn_4, jn_5, jn_6, jn_7, jn_8, jn_9, jn_10, jn_11, jn_12, jn_13, jn_14, jn_15, jn_16, jn_20, jn_21, jn_22, jn_23, jn_24, jn_25, jn_26, jn_27, jn_28, jn_29, jn_30, jn_31, jn_32, jn_33, jn_34, jn_35, jn_36, jn_37, jn_38, jn_39, jn_40, jn_41, jn_42, jn_43, jn_44, jn_50, js_0, js_1, js_2, js_3, js_4, js_5, js_6, js_7, js_8, js_9, js_10, js_11, js_12, js_13, js_14, js_15, js_16, js_20, js_21, js_22, js_23, js_24, js_25, js_26, js_27, js_28, js_29, js_30, js_31, js_32, js_33, js_34, js_35, js_36, js_37, js_38, js_39, js_40, js_41, js_42, js_43, js_44, js_50, bd_0, bd_1, bd_2, bd_3, let_e, nz_0, nz_1, nz_n0, nz_n1, ix_n, nl_0, nl_1, nl_2, nl_3, nl_4, nl_5, nl_6, nl_7, nl_8, nl_9, nl_10, nl_11, nl_12, nl_16, nl_40, nl_64, nl_200, nl_1000, nl_m, nl_m2, nar_0, nar_1, nI_cl, nI_E, nI_L, nI_T, nI_m, nI_m', nI_ng, nN_lt, nN_le, nI_add, pk_mul, nI_S, nI_R4, nI_R64, nI_32, st_eq, st_k, st_j, if_true, if_false, Nat.not_lt_zero, Nat.zero_le]
        · obtain ⟨M1, r1, r2, r3, r4⟩ := mst M hM
          have pm := Rm_fi r1 hd2 (v := nI (A 6 (dr (pa3 sh) (A 10 i 2) (A 10 i 1)) 0 + 1)) (x := A 6 (dr (pa3 sh) (A 10 i 2) (A 10 i 1)) 0 + 1) (by rw [g 6 (by decide) (by decide)]; omega) rfl
          have e1 : ¬ A 6 (dr (pa3 sh) (A 10 i 2) (A 10 i 1)) 1 = A 6 (dr (pa3 sh) (A 10 i 2) (A 10 i 1)) 0 := by omega
          unfold sAck
          rw [g 6 (by decide) (by decide)]
          by_cases e3 : A 6 (dr (pa3 sh) (A 10 i 2) (A 10 i 1)) 0 + 1 = A 6 (dr (pa3 sh) (A 10 i 2) (A 10 i 1)) 1
          · rw [if_pos e3]
            refine ⟨nI 3, _, ?_, pm, by rw [st_k (by decide), r2], by rw [st_k (by decide), r3]; rfl, fun _ => rfl⟩
            show f_Mo_deliver n (jn C2 M) 0 (nI i) = _
            rw [r4, if_pos e11, if_neg e, if_neg e1, if_pos mv.2, if_pos (by omega)]
          · rw [if_neg e3]
            have zz := z2.2.2.2.2 (A 6 (dr (pa3 sh) (A 10 i 2) (A 10 i 1)) 0 + 1) (by omega) (by omega)
            have hd2' : dr (pa3 sh) (A 10 i 2) (A 10 i 1) = dr (pa3 sh) (A 10 i 2) (A 10 i 1) := rfl
            obtain ⟨M2, m2, y1, y2, y3⟩ := q_pf pm hn (by rw [as_f (show 9 ≠ 6 by decide)]; exact P1'.2.2.2.1.1) k2 k1 (by rw [as_e, as_j (show 1 ≠ 0 by decide), g 6 (by decide) (by decide)]; omega) (by rw [as_j (show 1 ≠ 0 by decide), g 6 (by decide) (by decide)]; omega) (by rw [as_e, as_f (show 7 ≠ 6 by decide), g 7 (by decide) (by decide)]; omega) (by rw [as_e, as_f (show 8 ≠ 6 by decide), g 8 (by decide) (by decide)]; omega)
            refine ⟨nI 3, M2, ?_, y1, by rw [y2, st_k (by decide), r2], by rw [y3, st_k (by decide), r3]; rfl, fun _ => rfl⟩
            show f_Mo_deliver n (jn C2 M) 0 (nI i) = _
            rw [r4, if_pos e11, if_neg e, if_neg e1, if_pos mv.2, if_neg (by omega)]
            simp +decide (disch := omega) only [m2, jn_0, jn_1, jn_2, jn_3, jn_4, jn_5, jn_6, jn_7, jn_8, jn_9, jn_10, jn_11, jn_12, jn_13, jn_14, jn_15, jn_16, jn_20, jn_21, jn_22, jn_23, jn_24, jn_25, jn_26, jn_27, jn_28, jn_29, jn_30, jn_31, jn_32, jn_33, jn_34, jn_35, jn_36, jn_37, jn_38, jn_39, jn_40, jn_41, jn_42, jn_43, jn_44, jn_50, js_0, js_1, js_2, js_3, js_4, js_5, js_6, js_7, js_8, js_9, js_10, js_11, js_12, js_13, js_14, js_15, js_16, js_20, js_21, js_22, js_23, js_24, js_25, js_26, js_27, js_28, js_29, js_30, js_31, js_32, js_33, js_34, js_35, js_36, js_37, js_38, js_39, js_40, js_41, js_42, js_43, js_44, js_50, bd_0, bd_1, bd_2, bd_3, let_e, nz_0, nz_1, nz_n0, nz_n1, ix_n, nl_0, nl_1, nl_2, nl_3, nl_4, nl_5, nl_6, nl_7, nl_8, nl_9, nl_10, nl_11, nl_12, nl_16, nl_40, nl_64, nl_200, nl_1000, nl_m, nl_m2, nar_0, nar_1, nI_cl, nI_E, nI_L, nI_T, nI_m, nI_m', nI_ng, nN_lt, nN_le, nI_add, pk_mul, nI_S, nI_R4, nI_R64, nI_32, st_eq, st_k, st_j, if_true, if_false, Nat.not_lt_zero, Nat.zero_le]
      · have nv : A 6 (dr (pa3 sh) (A 10 i 2) (A 10 i 1)) 0 = A 6 (dr (pa3 sh) (A 10 i 2) (A 10 i 1)) 1 ∨ A 10 i 3 ≠ A 6 (dr (pa3 sh) (A 10 i 2) (A 10 i 1)) 0 := by omega
        refine ⟨0, nI 4, C1, sRem A i, by simp, fun M => ?_, p1, Pr_up P1' (Nat.le_succ T), fun M hM => ?_⟩
        · have f2 := k_nack p1 hn (by omega) P1' k1 k2 hnu (by rw [g 6 (by decide) (by decide)]; exact nv) M
          show f_LA_deliver n (jn C M) 0 (nI i) = _
          rw [cst, if_pos e11, if_neg e]
          simp +decide (disch := omega) only [f2, jn_0, jn_1, jn_2, jn_3, jn_4, jn_5, jn_6, jn_7, jn_8, jn_9, jn_10, jn_11, jn_12, jn_13, jn_14, jn_15, jn_16, jn_20, jn_21, jn_22, jn_23, jn_24, jn_25, jn_26, jn_27, jn_28, jn_29, jn_30, jn_31, jn_32, jn_33, jn_34, jn_35, jn_36, jn_37, jn_38, jn_39, jn_40, jn_41, jn_42, jn_43, jn_44, jn_50, js_0, js_1, js_2, js_3, js_4, js_5, js_6, js_7, js_8, js_9, js_10, js_11, js_12, js_13, js_14, js_15, js_16, js_20, js_21, js_22, js_23, js_24, js_25, js_26, js_27, js_28, js_29, js_30, js_31, js_32, js_33, js_34, js_35, js_36, js_37, js_38, js_39, js_40, js_41, js_42, js_43, js_44, js_50, bd_0, bd_1, bd_2, bd_3, let_e, nz_0, nz_1, nz_n0, nz_n1, ix_n, nl_0, nl_1, nl_2, nl_3, nl_4, nl_5, nl_6, nl_7, nl_8, nl_9, nl_10, nl_11, nl_12, nl_16, nl_40, nl_64, nl_200, nl_1000, nl_m, nl_m2, nar_0, nar_1, nI_cl, nI_E, nI_L, nI_T, nI_m, nI_m', nI_ng, nN_lt, nN_le, nI_add, pk_mul, nI_S, nI_R4, nI_R64, nI_32, st_eq, st_k, st_j, if_true, if_false, Nat.not_lt_zero, Nat.zero_le]
        · obtain ⟨M1, r1, r2, r3, r4⟩ := mst M hM
          refine ⟨nI 4, M1, ?_, r1, r2, by rw [r3]; rfl, fun _ => rfl⟩
          show f_Mo_deliver n (jn C1 M) 0 (nI i) = _
          rw [r4, if_pos e11, if_neg e]
          by_cases e1 : A 6 (dr (pa3 sh) (A 10 i 2) (A 10 i 1)) 1 = A 6 (dr (pa3 sh) (A 10 i 2) (A 10 i 1)) 0
          · rw [if_pos e1]
          · rw [if_neg e1, if_neg (by omega)]
  · -- the taker is down
    refine ⟨0, nI 0, C1, sRem A i, by simp, fun M => ?_, p1, Pr_up P1' (Nat.le_succ T), fun M hM => ?_⟩
    · show f_LA_deliver n (jn C M) 0 (nI i) = _
      rw [cst, if_neg e11]
    · obtain ⟨M1, r1, r2, r3, r4⟩ := mst M hM
      refine ⟨nI 0, M1, ?_, r1, r2, by rw [r3]; rfl, fun _ => rfl⟩
      show f_Mo_deliver n (jn C1 M) 0 (nI i) = _
      rw [r4, if_neg e11]

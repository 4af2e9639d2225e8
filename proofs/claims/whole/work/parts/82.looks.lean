/-! chain, leads, quiet -/
theorem ch_lt {n : Nat} {fo : Nat → Nat} (h1 : ∀ l, l < n → fo l = 99 ∨ fo l < n) : ∀ r m, (m = 99 ∨ m < n) → (ch fo r m = 99 ∨ ch fo r m < n) := by
  intro r
  induction r with
  | zero => exact fun m hm => hm
  | succ r ih =>
    intro m hm
    show (if m = 99 then 99 else ch fo r (fo m)) = 99 ∨ (if m = 99 then 99 else ch fo r (fo m)) < n
    by_cases e : m = 99
    · rw [if_pos e]
      exact Or.inl rfl
    · rw [if_neg e]
      exact ih _ (h1 m (by omega))
theorem k_chl {n sh : Nat} {C : mm_M} {A : mm_A} (h : Rp n sh C A) (hn : n ≤ 12) {c k : Nat} (hc : c < 3) (hk : k < 2147483648) (h1 : ∀ l, l < n → A 3 c l = 99 ∨ A 3 c l < n) (M : mm_M) : ∀ (K r s m : Nat), s + r = min k n → r < K → (m = 99 ∨ m < n) → f_Co_chainMember_l13 n K (jn C M) c (nI k) (zf m) (nI s) = some (0, zf (ch (A 3 c) r m), jn C M) := by
  intro K
  induction K with
  | zero =>
    intro r s m _ h2
    omega
  | succ K ih =>
    intro r s m hs h2 hm
    rw [f_Co_chainMember_l13]
    cases r with
    | zero =>
      by_cases e : k ≤ s
      · simp +decide (disch := omega) only [f_Co_chainMember_b48, e, ch, jn_0, jn_1, jn_2, jn_3, jn_4, jn_5, jn_6, jn_7, jn_8, jn_9, jn_10, jn_11, jn_12, jn_13, jn_14, jn_15, jn_16, jn_20, jn_21, jn_22, jn_23, jn_24, jn_25, jn_26, jn_27, jn_28, jn_29, jn_30, jn_31, jn_32, jn_33, jn_34, jn_35, jn_36, jn_37, jn_38, jn_39, jn_40, jn_41, jn_42, jn_43, jn_44, jn_50, js_0, js_1, js_2, js_3, js_4, js_5, js_6, js_7, js_8, js_9, js_10, js_11, js_12, js_13, js_14, js_15, js_16, js_20, js_21, js_22, js_23, js_24, js_25, js_26, js_27, js_28, js_29, js_30, js_31, js_32, js_33, js_34, js_35, js_36, js_37, js_38, js_39, js_40, js_41, js_42, js_43, js_44, js_50, bd_0, bd_1, bd_2, bd_3, let_e, nz_0, nz_1, nz_n0, nz_n1, ix_n, nl_0, nl_1, nl_2, nl_3, nl_4, nl_5, nl_6, nl_7, nl_8, nl_9, nl_10, nl_11, nl_12, nl_16, nl_40, nl_64, nl_200, nl_1000, nl_m, nl_m2, nar_0, nar_1, nI_cl, nI_E, nI_L, nI_T, nI_m, nI_m', nI_ng, nN_lt, nN_le, nI_add, pk_mul, nI_S, nI_R4, nI_R64, nI_32, st_eq, st_k, st_j, if_true, if_false, Nat.not_lt_zero, Nat.zero_le]
      · have e2 : n ≤ s := by omega
        simp +decide (disch := omega) only [f_Co_chainMember_b48, e, e2, ch, jn_0, jn_1, jn_2, jn_3, jn_4, jn_5, jn_6, jn_7, jn_8, jn_9, jn_10, jn_11, jn_12, jn_13, jn_14, jn_15, jn_16, jn_20, jn_21, jn_22, jn_23, jn_24, jn_25, jn_26, jn_27, jn_28, jn_29, jn_30, jn_31, jn_32, jn_33, jn_34, jn_35, jn_36, jn_37, jn_38, jn_39, jn_40, jn_41, jn_42, jn_43, jn_44, jn_50, js_0, js_1, js_2, js_3, js_4, js_5, js_6, js_7, js_8, js_9, js_10, js_11, js_12, js_13, js_14, js_15, js_16, js_20, js_21, js_22, js_23, js_24, js_25, js_26, js_27, js_28, js_29, js_30, js_31, js_32, js_33, js_34, js_35, js_36, js_37, js_38, js_39, js_40, js_41, js_42, js_43, js_44, js_50, bd_0, bd_1, bd_2, bd_3, let_e, nz_0, nz_1, nz_n0, nz_n1, ix_n, nl_0, nl_1, nl_2, nl_3, nl_4, nl_5, nl_6, nl_7, nl_8, nl_9, nl_10, nl_11, nl_12, nl_16, nl_40, nl_64, nl_200, nl_1000, nl_m, nl_m2, nar_0, nar_1, nI_cl, nI_E, nI_L, nI_T, nI_m, nI_m', nI_ng, nN_lt, nN_le, nI_add, pk_mul, nI_S, nI_R4, nI_R64, nI_32, st_eq, st_k, st_j, if_true, if_false, Nat.not_lt_zero, Nat.zero_le]
    | succ r =>
      have e : ¬ k ≤ s := by omega
      have e2 : ¬ n ≤ s := by omega
      by_cases em : m = 99
      · subst em
        rw [ch_99]
        simp +decide (disch := omega) only [f_Co_chainMember_b48, e, e2, zf_99, jn_0, jn_1, jn_2, jn_3, jn_4, jn_5, jn_6, jn_7, jn_8, jn_9, jn_10, jn_11, jn_12, jn_13, jn_14, jn_15, jn_16, jn_20, jn_21, jn_22, jn_23, jn_24, jn_25, jn_26, jn_27, jn_28, jn_29, jn_30, jn_31, jn_32, jn_33, jn_34, jn_35, jn_36, jn_37, jn_38, jn_39, jn_40, jn_41, jn_42, jn_43, jn_44, jn_50, js_0, js_1, js_2, js_3, js_4, js_5, js_6, js_7, js_8, js_9, js_10, js_11, js_12, js_13, js_14, js_15, js_16, js_20, js_21, js_22, js_23, js_24, js_25, js_26, js_27, js_28, js_29, js_30, js_31, js_32, js_33, js_34, js_35, js_36, js_37, js_38, js_39, js_40, js_41, js_42, js_43, js_44, js_50, bd_0, bd_1, bd_2, bd_3, let_e, nz_0, nz_1, nz_n0, nz_n1, ix_n, nl_0, nl_1, nl_2, nl_3, nl_4, nl_5, nl_6, nl_7, nl_8, nl_9, nl_10, nl_11, nl_12, nl_16, nl_40, nl_64, nl_200, nl_1000, nl_m, nl_m2, nar_0, nar_1, nI_cl, nI_E, nI_L, nI_T, nI_m, nI_m', nI_ng, nN_lt, nN_le, nI_add, pk_mul, nI_S, nI_R4, nI_R64, nI_32, st_eq, st_k, st_j, if_true, if_false, Nat.not_lt_zero, Nat.zero_le]
      · have hmn : m < n := by omega
        have p := (h.1 c m hc hmn).2.2.1
        have s1 : ch (A 3 c) (r + 1) m = ch (A 3 c) r (A 3 c m) := if_neg em
        rw [s1, zf_n em]
        simp +decide (disch := omega) only [f_Co_chainMember_b48, e, e2, p, jn_0, jn_1, jn_2, jn_3, jn_4, jn_5, jn_6, jn_7, jn_8, jn_9, jn_10, jn_11, jn_12, jn_13, jn_14, jn_15, jn_16, jn_20, jn_21, jn_22, jn_23, jn_24, jn_25, jn_26, jn_27, jn_28, jn_29, jn_30, jn_31, jn_32, jn_33, jn_34, jn_35, jn_36, jn_37, jn_38, jn_39, jn_40, jn_41, jn_42, jn_43, jn_44, jn_50, js_0, js_1, js_2, js_3, js_4, js_5, js_6, js_7, js_8, js_9, js_10, js_11, js_12, js_13, js_14, js_15, js_16, js_20, js_21, js_22, js_23, js_24, js_25, js_26, js_27, js_28, js_29, js_30, js_31, js_32, js_33, js_34, js_35, js_36, js_37, js_38, js_39, js_40, js_41, js_42, js_43, js_44, js_50, bd_0, bd_1, bd_2, bd_3, let_e, nz_0, nz_1, nz_n0, nz_n1, ix_n, nl_0, nl_1, nl_2, nl_3, nl_4, nl_5, nl_6, nl_7, nl_8, nl_9, nl_10, nl_11, nl_12, nl_16, nl_40, nl_64, nl_200, nl_1000, nl_m, nl_m2, nar_0, nar_1, nI_cl, nI_E, nI_L, nI_T, nI_m, nI_m', nI_ng, nN_lt, nN_le, nI_add, pk_mul, nI_S, nI_R4, nI_R64, nI_32, st_eq, st_k, st_j, if_true, if_false, Nat.not_lt_zero, Nat.zero_le]
        exact ih r (s + 1) _ (by omega) (by omega) (h1 m hmn)
theorem q_chl {n sh : Nat} {M : mm_M} {A : mm_A} (h : Rm n sh M A) (hn : n ≤ 12) {c k : Nat} (hc : c < 3) (hk : k < 2147483648) (h1 : ∀ l, l < n → A 3 c l = 99 ∨ A 3 c l < n) (C : mm_M) : ∀ (K r s m : Nat), s + r = min k 40 → r < K → (m = 99 ∨ (m < n ∧ A 5 c 0 ≠ 99)) → f_Mo_chain_l48 n K (jn C M) 0 (nI c) (nI k) (zf m) (nI s) = some (0, (if k ≤ 40 then zf (ch (A 3 c) r m) else nN), jn C M) := by
  intro K
  induction K with
  | zero =>
    intro r s m _ h2
    omega
  | succ K ih =>
    intro r s m hs h2 hm
    rw [f_Mo_chain_l48]
    have hb : ∀ x : Int32, f_Mo_chain_b82 n (jn C M) (nI k) x = some (0, (if k ≤ 40 then x else nN), jn C M) := fun x => by
      by_cases e4 : k ≤ 40
      · rw [if_pos e4]
        simp +decide (disch := omega) only [f_Mo_chain_b82, f_Mo_chain_b93, e4, jn_0, jn_1, jn_2, jn_3, jn_4, jn_5, jn_6, jn_7, jn_8, jn_9, jn_10, jn_11, jn_12, jn_13, jn_14, jn_15, jn_16, jn_20, jn_21, jn_22, jn_23, jn_24, jn_25, jn_26, jn_27, jn_28, jn_29, jn_30, jn_31, jn_32, jn_33, jn_34, jn_35, jn_36, jn_37, jn_38, jn_39, jn_40, jn_41, jn_42, jn_43, jn_44, jn_50, js_0, js_1, js_2, js_3, js_4, js_5, js_6, js_7, js_8, js_9, js_10, js_11, js_12, js_13, js_14, js_15, js_16, js_20, js_21, js_22, js_23, js_24, js_25, js_26, js_27, js_28, js_29, js_30, js_31, js_32, js_33, js_34, js_35, js_36, js_37, js_38, js_39, js_40, js_41, js_42, js_43, js_44, js_50, bd_0, bd_1, bd_2, bd_3, let_e, nz_0, nz_1, nz_n0, nz_n1, ix_n, nl_0, nl_1, nl_2, nl_3, nl_4, nl_5, nl_6, nl_7, nl_8, nl_9, nl_10, nl_11, nl_12, nl_16, nl_40, nl_64, nl_200, nl_1000, nl_m, nl_m2, nar_0, nar_1, nI_cl, nI_E, nI_L, nI_T, nI_m, nI_m', nI_ng, nN_lt, nN_le, nI_add, pk_mul, nI_S, nI_R4, nI_R64, nI_32, st_eq, st_k, st_j, if_true, if_false, Nat.not_lt_zero, Nat.zero_le]
      · rw [if_neg e4]
        simp +decide (disch := omega) only [f_Mo_chain_b82, f_Mo_chain_b93, e4, jn_0, jn_1, jn_2, jn_3, jn_4, jn_5, jn_6, jn_7, jn_8, jn_9, jn_10, jn_11, jn_12, jn_13, jn_14, jn_15, jn_16, jn_20, jn_21, jn_22, jn_23, jn_24, jn_25, jn_26, jn_27, jn_28, jn_29, jn_30, jn_31, jn_32, jn_33, jn_34, jn_35, jn_36, jn_37, jn_38, jn_39, jn_40, jn_41, jn_42, jn_43, jn_44, jn_50, js_0, js_1, js_2, js_3, js_4, js_5, js_6, js_7, js_8, js_9, js_10, js_11, js_12, js_13, js_14, js_15, js_16, js_20, js_21, js_22, js_23, js_24, js_25, js_26, js_27, js_28, js_29, js_30, js_31, js_32, js_33, js_34, js_35, js_36, js_37, js_38, js_39, js_40, js_41, js_42, js_43, js_44, js_50, bd_0, bd_1, bd_2, bd_3, let_e, nz_0, nz_1, nz_n0, nz_n1, ix_n, nl_0, nl_1, nl_2, nl_3, nl_4, nl_5, nl_6, nl_7, nl_8, nl_9, nl_10, nl_11, nl_12, nl_16, nl_40, nl_64, nl_200, nl_1000, nl_m, nl_m2, nar_0, nar_1, nI_cl, nI_E, nI_L, nI_T, nI_m, nI_m', nI_ng, nN_lt, nN_le, nI_add, pk_mul, nI_S, nI_R4, nI_R64, nI_32, st_eq, st_k, st_j, if_true, if_false, Nat.not_lt_zero, Nat.zero_le]
    cases r with
    | zero =>
      by_cases e : k ≤ s
      · simp +decide (disch := omega) only [e, hb, ch, jn_0, jn_1, jn_2, jn_3, jn_4, jn_5, jn_6, jn_7, jn_8, jn_9, jn_10, jn_11, jn_12, jn_13, jn_14, jn_15, jn_16, jn_20, jn_21, jn_22, jn_23, jn_24, jn_25, jn_26, jn_27, jn_28, jn_29, jn_30, jn_31, jn_32, jn_33, jn_34, jn_35, jn_36, jn_37, jn_38, jn_39, jn_40, jn_41, jn_42, jn_43, jn_44, jn_50, js_0, js_1, js_2, js_3, js_4, js_5, js_6, js_7, js_8, js_9, js_10, js_11, js_12, js_13, js_14, js_15, js_16, js_20, js_21, js_22, js_23, js_24, js_25, js_26, js_27, js_28, js_29, js_30, js_31, js_32, js_33, js_34, js_35, js_36, js_37, js_38, js_39, js_40, js_41, js_42, js_43, js_44, js_50, bd_0, bd_1, bd_2, bd_3, let_e, nz_0, nz_1, nz_n0, nz_n1, ix_n, nl_0, nl_1, nl_2, nl_3, nl_4, nl_5, nl_6, nl_7, nl_8, nl_9, nl_10, nl_11, nl_12, nl_16, nl_40, nl_64, nl_200, nl_1000, nl_m, nl_m2, nar_0, nar_1, nI_cl, nI_E, nI_L, nI_T, nI_m, nI_m', nI_ng, nN_lt, nN_le, nI_add, pk_mul, nI_S, nI_R4, nI_R64, nI_32, st_eq, st_k, st_j, if_true, if_false, Nat.not_lt_zero, Nat.zero_le]
      · have e2 : 40 ≤ s := by omega
        simp +decide (disch := omega) only [e, e2, hb, ch, jn_0, jn_1, jn_2, jn_3, jn_4, jn_5, jn_6, jn_7, jn_8, jn_9, jn_10, jn_11, jn_12, jn_13, jn_14, jn_15, jn_16, jn_20, jn_21, jn_22, jn_23, jn_24, jn_25, jn_26, jn_27, jn_28, jn_29, jn_30, jn_31, jn_32, jn_33, jn_34, jn_35, jn_36, jn_37, jn_38, jn_39, jn_40, jn_41, jn_42, jn_43, jn_44, jn_50, js_0, js_1, js_2, js_3, js_4, js_5, js_6, js_7, js_8, js_9, js_10, js_11, js_12, js_13, js_14, js_15, js_16, js_20, js_21, js_22, js_23, js_24, js_25, js_26, js_27, js_28, js_29, js_30, js_31, js_32, js_33, js_34, js_35, js_36, js_37, js_38, js_39, js_40, js_41, js_42, js_43, js_44, js_50, bd_0, bd_1, bd_2, bd_3, let_e, nz_0, nz_1, nz_n0, nz_n1, ix_n, nl_0, nl_1, nl_2, nl_3, nl_4, nl_5, nl_6, nl_7, nl_8, nl_9, nl_10, nl_11, nl_12, nl_16, nl_40, nl_64, nl_200, nl_1000, nl_m, nl_m2, nar_0, nar_1, nI_cl, nI_E, nI_L, nI_T, nI_m, nI_m', nI_ng, nN_lt, nN_le, nI_add, pk_mul, nI_S, nI_R4, nI_R64, nI_32, st_eq, st_k, st_j, if_true, if_false, Nat.not_lt_zero, Nat.zero_le]
    | succ r =>
      have e : ¬ k ≤ s := by omega
      have e2 : ¬ 40 ≤ s := by omega
      by_cases em : m = 99
      · subst em
        rw [ch_99]
        simp +decide (disch := omega) only [e, e2, zf_99, hb, jn_0, jn_1, jn_2, jn_3, jn_4, jn_5, jn_6, jn_7, jn_8, jn_9, jn_10, jn_11, jn_12, jn_13, jn_14, jn_15, jn_16, jn_20, jn_21, jn_22, jn_23, jn_24, jn_25, jn_26, jn_27, jn_28, jn_29, jn_30, jn_31, jn_32, jn_33, jn_34, jn_35, jn_36, jn_37, jn_38, jn_39, jn_40, jn_41, jn_42, jn_43, jn_44, jn_50, js_0, js_1, js_2, js_3, js_4, js_5, js_6, js_7, js_8, js_9, js_10, js_11, js_12, js_13, js_14, js_15, js_16, js_20, js_21, js_22, js_23, js_24, js_25, js_26, js_27, js_28, js_29, js_30, js_31, js_32, js_33, js_34, js_35, js_36, js_37, js_38, js_39, js_40, js_41, js_42, js_43, js_44, js_50, bd_0, bd_1, bd_2, bd_3, let_e, nz_0, nz_1, nz_n0, nz_n1, ix_n, nl_0, nl_1, nl_2, nl_3, nl_4, nl_5, nl_6, nl_7, nl_8, nl_9, nl_10, nl_11, nl_12, nl_16, nl_40, nl_64, nl_200, nl_1000, nl_m, nl_m2, nar_0, nar_1, nI_cl, nI_E, nI_L, nI_T, nI_m, nI_m', nI_ng, nN_lt, nN_le, nI_add, pk_mul, nI_S, nI_R4, nI_R64, nI_32, st_eq, st_k, st_j, if_true, if_false, Nat.not_lt_zero, Nat.zero_le]
      · have hmn : m < n := by omega
        have h5 : A 5 c 0 ≠ 99 := by omega
        have p := ((h.1 c m hc hmn).2.1 h5).2
        have s1 : ch (A 3 c) (r + 1) m = ch (A 3 c) r (A 3 c m) := if_neg em
        rw [s1, zf_n em]
        have g := h1 m hmn
        simp +decide (disch := omega) only [e, e2, f_Mo_at, p, jn_0, jn_1, jn_2, jn_3, jn_4, jn_5, jn_6, jn_7, jn_8, jn_9, jn_10, jn_11, jn_12, jn_13, jn_14, jn_15, jn_16, jn_20, jn_21, jn_22, jn_23, jn_24, jn_25, jn_26, jn_27, jn_28, jn_29, jn_30, jn_31, jn_32, jn_33, jn_34, jn_35, jn_36, jn_37, jn_38, jn_39, jn_40, jn_41, jn_42, jn_43, jn_44, jn_50, js_0, js_1, js_2, js_3, js_4, js_5, js_6, js_7, js_8, js_9, js_10, js_11, js_12, js_13, js_14, js_15, js_16, js_20, js_21, js_22, js_23, js_24, js_25, js_26, js_27, js_28, js_29, js_30, js_31, js_32, js_33, js_34, js_35, js_36, js_37, js_38, js_39, js_40, js_41, js_42, js_43, js_44, js_50, bd_0, bd_1, bd_2, bd_3, let_e, nz_0, nz_1, nz_n0, nz_n1, ix_n, nl_0, nl_1, nl_2, nl_3, nl_4, nl_5, nl_6, nl_7, nl_8, nl_9, nl_10, nl_11, nl_12, nl_16, nl_40, nl_64, nl_200, nl_1000, nl_m, nl_m2, nar_0, nar_1, nI_cl, nI_E, nI_L, nI_T, nI_m, nI_m', nI_ng, nN_lt, nN_le, nI_add, pk_mul, nI_S, nI_R4, nI_R64, nI_32, st_eq, st_k, st_j, if_true, if_false, Nat.not_lt_zero, Nat.zero_le]
        exact ih r (s + 1) _ (by omega) (by omega) (by omega)
theorem chain_facts {n sh T : Nat} {A : mm_A} (hP : Pr n sh T A) (hn : n ≤ 12) {c : Nat} (hc : c < 3) : (∀ l, l < n → A 3 c l = 99 ∨ A 3 c l < n) ∧ ch (A 3 c) n (A 5 c 0) = 99 ∧ (A 5 c 0 = 99 ∨ (A 5 c 0 < n ∧ A 5 c 0 ≠ 99)) := by
  have a := hP.2.1 c hc
  by_cases h5 : A 5 c 0 = 99
  · have b := a.2.2.1 h5
    refine ⟨fun l hl => Or.inl (b.2 l hl).2, ?_, Or.inl h5⟩
    rw [h5, ch_99]
  · have q := a.2.2.2 h5
    refine ⟨fun l hl => (q.2.1 l hl).2.2.1, ?_, Or.inr ⟨q.1.1, h5⟩⟩
    exact ch_n hn q.1.1 (fun l hl => (q.2.1 l hl).2.2.1) (fun l hl w => (q.2.2.2.2.2.2.1 l hl w).2) q.2.2.2.2.2.2.2.1
theorem ag_chain {n sh T : Nat} {A : mm_A} {C : mm_M} (hn : n ≤ 12) (hR : Rp n sh C A) (hP : Pr n sh T A) (x y : Int32) : AG n sh T A C (fun g => f_LA_chain n g 0 x y) (fun g => f_Mo_chain n g 0 x y) [0, 1] th1 := by
  obtain ⟨F, hF⟩ : ∃ F, F = 4096 := ⟨4096, rfl⟩
  have u : ∀ (g : mm_M) (x1 x2 t1 : Int32), f_Mo_chain_b13 n g 0 x1 x2 0 t1 = mm_bd (f_Mo_refused n g 0 t1 0 0) 0 (fun z1 g2 => (if z1 = 0 then (if 0 ≤ x2 then mm_ix x1 3 (f_Mo_chain_l48 n F g2 0 x1 x2 (g2 30 0 x1.toNatClampNeg) 0) else f_Mo_chain_b25 n g2 x1) else f_Mo_chain_b25 n g2 x1)) := fun g x1 x2 t1 => by
    rw [hF]
    unfold f_Mo_chain_b13
    rfl
  rcases tri 3 (by decide) x with hb | ⟨c, hc, rfl⟩
  · refine AG_same hR hP 1 (by simp) (v := nI 0) (v' := nI 0) (fun M => ?_) (fun M hM => ?_) (fun _ => rfl)
    · simp +decide (disch := omega) only [f_LA_chain, k_rcb hb, jn_0, jn_1, jn_2, jn_3, jn_4, jn_5, jn_6, jn_7, jn_8, jn_9, jn_10, jn_11, jn_12, jn_13, jn_14, jn_15, jn_16, jn_20, jn_21, jn_22, jn_23, jn_24, jn_25, jn_26, jn_27, jn_28, jn_29, jn_30, jn_31, jn_32, jn_33, jn_34, jn_35, jn_36, jn_37, jn_38, jn_39, jn_40, jn_41, jn_42, jn_43, jn_44, jn_50, js_0, js_1, js_2, js_3, js_4, js_5, js_6, js_7, js_8, js_9, js_10, js_11, js_12, js_13, js_14, js_15, js_16, js_20, js_21, js_22, js_23, js_24, js_25, js_26, js_27, js_28, js_29, js_30, js_31, js_32, js_33, js_34, js_35, js_36, js_37, js_38, js_39, js_40, js_41, js_42, js_43, js_44, js_50, bd_0, bd_1, bd_2, bd_3, let_e, nz_0, nz_1, nz_n0, nz_n1, ix_n, nl_0, nl_1, nl_2, nl_3, nl_4, nl_5, nl_6, nl_7, nl_8, nl_9, nl_10, nl_11, nl_12, nl_16, nl_40, nl_64, nl_200, nl_1000, nl_m, nl_m2, nar_0, nar_1, nI_cl, nI_E, nI_L, nI_T, nI_m, nI_m', nI_ng, nN_lt, nN_le, nI_add, pk_mul, nI_S, nI_R4, nI_R64, nI_32, st_eq, st_k, st_j, if_true, if_false, Nat.not_lt_zero, Nat.zero_le]
    · clear hF
      simp +decide (disch := omega) only [f_Mo_chain, u, f_Mo_chain_b25, f_Mo_chain_b37, q_icb hb, q_r1, th1, jn_0, jn_1, jn_2, jn_3, jn_4, jn_5, jn_6, jn_7, jn_8, jn_9, jn_10, jn_11, jn_12, jn_13, jn_14, jn_15, jn_16, jn_20, jn_21, jn_22, jn_23, jn_24, jn_25, jn_26, jn_27, jn_28, jn_29, jn_30, jn_31, jn_32, jn_33, jn_34, jn_35, jn_36, jn_37, jn_38, jn_39, jn_40, jn_41, jn_42, jn_43, jn_44, jn_50, js_0, js_1, js_2, js_3, js_4, js_5, js_6, js_7, js_8, js_9, js_10, js_11, js_12, js_13, js_14, js_15, js_16, js_20, js_21, js_22, js_23, js_24, js_25, js_26, js_27, js_28, js_29, js_30, js_31, js_32, js_33, js_34, js_35, js_36, js_37, js_38, js_39, js_40, js_41, js_42, js_43, js_44, js_50, bd_0, bd_1, bd_2, bd_3, let_e, nz_0, nz_1, nz_n0, nz_n1, ix_n, nl_0, nl_1, nl_2, nl_3, nl_4, nl_5, nl_6, nl_7, nl_8, nl_9, nl_10, nl_11, nl_12, nl_16, nl_40, nl_64, nl_200, nl_1000, nl_m, nl_m2, nar_0, nar_1, nI_cl, nI_E, nI_L, nI_T, nI_m, nI_m', nI_ng, nN_lt, nN_le, nI_add, pk_mul, nI_S, nI_R4, nI_R64, nI_32, st_eq, st_k, st_j, if_true, if_false, Nat.not_lt_zero, Nat.zero_le]
  have a := hR.2.1 c hc
  obtain ⟨g1, g2, g3⟩ := chain_facts hP hn hc
  by_cases y0 : y < nI 0
  · have y0' : ¬ nI 0 ≤ y := i_nle y0
    refine AG_same hR hP 0 (by simp) (v := nN) (v' := nN) (fun M => ?_) (fun M hM => ?_) (fun _ => rfl)
    · have e : f_Co_chainMember n (jn C M) c y = some (0, nN, jn C M) := by
        unfold f_Co_chainMember
        have : ¬ (0 : Int32) ≤ y := y0'
        rw [if_neg this]
        rfl
      simp +decide (disch := omega) only [f_LA_chain, k_rc hc, e, jn_0, jn_1, jn_2, jn_3, jn_4, jn_5, jn_6, jn_7, jn_8, jn_9, jn_10, jn_11, jn_12, jn_13, jn_14, jn_15, jn_16, jn_20, jn_21, jn_22, jn_23, jn_24, jn_25, jn_26, jn_27, jn_28, jn_29, jn_30, jn_31, jn_32, jn_33, jn_34, jn_35, jn_36, jn_37, jn_38, jn_39, jn_40, jn_41, jn_42, jn_43, jn_44, jn_50, js_0, js_1, js_2, js_3, js_4, js_5, js_6, js_7, js_8, js_9, js_10, js_11, js_12, js_13, js_14, js_15, js_16, js_20, js_21, js_22, js_23, js_24, js_25, js_26, js_27, js_28, js_29, js_30, js_31, js_32, js_33, js_34, js_35, js_36, js_37, js_38, js_39, js_40, js_41, js_42, js_43, js_44, js_50, bd_0, bd_1, bd_2, bd_3, let_e, nz_0, nz_1, nz_n0, nz_n1, ix_n, nl_0, nl_1, nl_2, nl_3, nl_4, nl_5, nl_6, nl_7, nl_8, nl_9, nl_10, nl_11, nl_12, nl_16, nl_40, nl_64, nl_200, nl_1000, nl_m, nl_m2, nar_0, nar_1, nI_cl, nI_E, nI_L, nI_T, nI_m, nI_m', nI_ng, nN_lt, nN_le, nI_add, pk_mul, nI_S, nI_R4, nI_R64, nI_32, st_eq, st_k, st_j, if_true, if_false, Nat.not_lt_zero, Nat.zero_le]
    · clear hF
      simp +decide (disch := omega) only [f_Mo_chain, u, f_Mo_chain_b25, f_Mo_chain_b37, q_ic hc, q_r0, y0', th1, jn_0, jn_1, jn_2, jn_3, jn_4, jn_5, jn_6, jn_7, jn_8, jn_9, jn_10, jn_11, jn_12, jn_13, jn_14, jn_15, jn_16, jn_20, jn_21, jn_22, jn_23, jn_24, jn_25, jn_26, jn_27, jn_28, jn_29, jn_30, jn_31, jn_32, jn_33, jn_34, jn_35, jn_36, jn_37, jn_38, jn_39, jn_40, jn_41, jn_42, jn_43, jn_44, jn_50, js_0, js_1, js_2, js_3, js_4, js_5, js_6, js_7, js_8, js_9, js_10, js_11, js_12, js_13, js_14, js_15, js_16, js_20, js_21, js_22, js_23, js_24, js_25, js_26, js_27, js_28, js_29, js_30, js_31, js_32, js_33, js_34, js_35, js_36, js_37, js_38, js_39, js_40, js_41, js_42, js_43, js_44, js_50, bd_0, bd_1, bd_2, bd_3, let_e, nz_0, nz_1, nz_n0, nz_n1, ix_n, nl_0, nl_1, nl_2, nl_3, nl_4, nl_5, nl_6, nl_7, nl_8, nl_9, nl_10, nl_11, nl_12, nl_16, nl_40, nl_64, nl_200, nl_1000, nl_m, nl_m2, nar_0, nar_1, nI_cl, nI_E, nI_L, nI_T, nI_m, nI_m', nI_ng, nN_lt, nN_le, nI_add, pk_mul, nI_S, nI_R4, nI_R64, nI_32, st_eq, st_k, st_j, if_true, if_false, Nat.not_lt_zero, Nat.zero_le]
  · obtain ⟨k, hk, rfl⟩ := nI_of (x := y) y0
    have e1 : ∀ M, f_Co_chainMember n (jn C M) c (nI k) = some (0, zf (ch (A 3 c) (min k n) (A 5 c 0)), jn C M) := fun M => by
      unfold f_Co_chainMember
      have : (0 : Int32) ≤ nI k := nI_pos' hk
      rw [if_pos this, jn_5, a.1]
      exact k_chl hR hn hc hk g1 M 4096 (min k n) 0 (A 5 c 0) (by omega) (by omega) (by omega)
    refine AG_same hR hP 0 (by simp) (v := zf (ch (A 3 c) (min k n) (A 5 c 0))) (v' := zf (ch (A 3 c) (min k n) (A 5 c 0))) (fun M => ?_) (fun M hM => ?_) (fun _ => rfl)
    · simp +decide (disch := omega) only [f_LA_chain, k_rc hc, e1, jn_0, jn_1, jn_2, jn_3, jn_4, jn_5, jn_6, jn_7, jn_8, jn_9, jn_10, jn_11, jn_12, jn_13, jn_14, jn_15, jn_16, jn_20, jn_21, jn_22, jn_23, jn_24, jn_25, jn_26, jn_27, jn_28, jn_29, jn_30, jn_31, jn_32, jn_33, jn_34, jn_35, jn_36, jn_37, jn_38, jn_39, jn_40, jn_41, jn_42, jn_43, jn_44, jn_50, js_0, js_1, js_2, js_3, js_4, js_5, js_6, js_7, js_8, js_9, js_10, js_11, js_12, js_13, js_14, js_15, js_16, js_20, js_21, js_22, js_23, js_24, js_25, js_26, js_27, js_28, js_29, js_30, js_31, js_32, js_33, js_34, js_35, js_36, js_37, js_38, js_39, js_40, js_41, js_42, js_43, js_44, js_50, bd_0, bd_1, bd_2, bd_3, let_e, nz_0, nz_1, nz_n0, nz_n1, ix_n, nl_0, nl_1, nl_2, nl_3, nl_4, nl_5, nl_6, nl_7, nl_8, nl_9, nl_10, nl_11, nl_12, nl_16, nl_40, nl_64, nl_200, nl_1000, nl_m, nl_m2, nar_0, nar_1, nI_cl, nI_E, nI_L, nI_T, nI_m, nI_m', nI_ng, nN_lt, nN_le, nI_add, pk_mul, nI_S, nI_R4, nI_R64, nI_32, st_eq, st_k, st_j, if_true, if_false, Nat.not_lt_zero, Nat.zero_le]
    · have b := (hM.2.1 c hc).1
      have q := q_chl (Rm_th (v := nI 0) hM) hn hc hk g1 C 4096 (min k 40) 0 (A 5 c 0) (by omega) (by omega) (by omega)
      have hv : (if k ≤ 40 then zf (ch (A 3 c) (min k 40) (A 5 c 0)) else nN) = zf (ch (A 3 c) (min k n) (A 5 c 0)) := by
        by_cases e : k ≤ n
        · rw [if_pos (by omega), Nat.min_eq_left (by omega), Nat.min_eq_left e]
        · rw [Nat.min_eq_right (show n ≤ k by omega), g2, zf_99]
          by_cases e4 : k ≤ 40
          · rw [if_pos e4, Nat.min_eq_left e4, ch_more g2 (by omega), zf_99]
          · rw [if_neg e4]
      rw [hv, ← hF] at q
      clear hF
      simp +decide (disch := omega) only [f_Mo_chain, u, q_ic hc, q_r0, b, th1, jn_0, jn_1, jn_2, jn_3, jn_4, jn_5, jn_6, jn_7, jn_8, jn_9, jn_10, jn_11, jn_12, jn_13, jn_14, jn_15, jn_16, jn_20, jn_21, jn_22, jn_23, jn_24, jn_25, jn_26, jn_27, jn_28, jn_29, jn_30, jn_31, jn_32, jn_33, jn_34, jn_35, jn_36, jn_37, jn_38, jn_39, jn_40, jn_41, jn_42, jn_43, jn_44, jn_50, js_0, js_1, js_2, js_3, js_4, js_5, js_6, js_7, js_8, js_9, js_10, js_11, js_12, js_13, js_14, js_15, js_16, js_20, js_21, js_22, js_23, js_24, js_25, js_26, js_27, js_28, js_29, js_30, js_31, js_32, js_33, js_34, js_35, js_36, js_37, js_38, js_39, js_40, js_41, js_42, js_43, js_44, js_50, bd_0, bd_1, bd_2, bd_3, let_e, nz_0, nz_1, nz_n0, nz_n1, ix_n, nl_0, nl_1, nl_2, nl_3, nl_4, nl_5, nl_6, nl_7, nl_8, nl_9, nl_10, nl_11, nl_12, nl_16, nl_40, nl_64, nl_200, nl_1000, nl_m, nl_m2, nar_0, nar_1, nI_cl, nI_E, nI_L, nI_T, nI_m, nI_m', nI_ng, nN_lt, nN_le, nI_add, pk_mul, nI_S, nI_R4, nI_R64, nI_32, st_eq, st_k, st_j, if_true, if_false, Nat.not_lt_zero, Nat.zero_le]
      exact q
theorem k_arl {n sh : Nat} {C : mm_M} {A : mm_A} (h : Rp n sh C A) (hn : n ≤ 12) {c : Nat} (hc : c < 3) (h1 : ∀ l, l < n → A 2 c l < n) (M : mm_M) : ∀ (K r s m : Nat), s + r = n → r < K → m < n → f_Co_arrowsEnd_l4 n K (jn C M) c (nI m) (nI s) = some (0, nI (we (A 2 c) r m), jn C M) := by
  intro K
  induction K with
  | zero =>
    intro r s m _ h2
    omega
  | succ K ih =>
    intro r s m hs h2 hm
    rw [f_Co_arrowsEnd_l4]
    have p := (h.1 c m hc hm).2.1
    have g := h1 m hm
    rw [zf_n (by omega)] at p
    cases r with
    | zero =>
      have e : n ≤ s := by omega
      simp +decide (disch := omega) only [f_Co_arrowsEnd_b42, e, we, jn_0, jn_1, jn_2, jn_3, jn_4, jn_5, jn_6, jn_7, jn_8, jn_9, jn_10, jn_11, jn_12, jn_13, jn_14, jn_15, jn_16, jn_20, jn_21, jn_22, jn_23, jn_24, jn_25, jn_26, jn_27, jn_28, jn_29, jn_30, jn_31, jn_32, jn_33, jn_34, jn_35, jn_36, jn_37, jn_38, jn_39, jn_40, jn_41, jn_42, jn_43, jn_44, jn_50, js_0, js_1, js_2, js_3, js_4, js_5, js_6, js_7, js_8, js_9, js_10, js_11, js_12, js_13, js_14, js_15, js_16, js_20, js_21, js_22, js_23, js_24, js_25, js_26, js_27, js_28, js_29, js_30, js_31, js_32, js_33, js_34, js_35, js_36, js_37, js_38, js_39, js_40, js_41, js_42, js_43, js_44, js_50, bd_0, bd_1, bd_2, bd_3, let_e, nz_0, nz_1, nz_n0, nz_n1, ix_n, nl_0, nl_1, nl_2, nl_3, nl_4, nl_5, nl_6, nl_7, nl_8, nl_9, nl_10, nl_11, nl_12, nl_16, nl_40, nl_64, nl_200, nl_1000, nl_m, nl_m2, nar_0, nar_1, nI_cl, nI_E, nI_L, nI_T, nI_m, nI_m', nI_ng, nN_lt, nN_le, nI_add, pk_mul, nI_S, nI_R4, nI_R64, nI_32, st_eq, st_k, st_j, if_true, if_false, Nat.not_lt_zero, Nat.zero_le]
    | succ r =>
      have e : ¬ n ≤ s := by omega
      by_cases em : A 2 c m = m
      · have s1 : we (A 2 c) (r + 1) m = m := if_pos em
        rw [s1]
        rw [em] at p
        simp +decide (disch := omega) only [f_Co_arrowsEnd_b42, e, p, jn_0, jn_1, jn_2, jn_3, jn_4, jn_5, jn_6, jn_7, jn_8, jn_9, jn_10, jn_11, jn_12, jn_13, jn_14, jn_15, jn_16, jn_20, jn_21, jn_22, jn_23, jn_24, jn_25, jn_26, jn_27, jn_28, jn_29, jn_30, jn_31, jn_32, jn_33, jn_34, jn_35, jn_36, jn_37, jn_38, jn_39, jn_40, jn_41, jn_42, jn_43, jn_44, jn_50, js_0, js_1, js_2, js_3, js_4, js_5, js_6, js_7, js_8, js_9, js_10, js_11, js_12, js_13, js_14, js_15, js_16, js_20, js_21, js_22, js_23, js_24, js_25, js_26, js_27, js_28, js_29, js_30, js_31, js_32, js_33, js_34, js_35, js_36, js_37, js_38, js_39, js_40, js_41, js_42, js_43, js_44, js_50, bd_0, bd_1, bd_2, bd_3, let_e, nz_0, nz_1, nz_n0, nz_n1, ix_n, nl_0, nl_1, nl_2, nl_3, nl_4, nl_5, nl_6, nl_7, nl_8, nl_9, nl_10, nl_11, nl_12, nl_16, nl_40, nl_64, nl_200, nl_1000, nl_m, nl_m2, nar_0, nar_1, nI_cl, nI_E, nI_L, nI_T, nI_m, nI_m', nI_ng, nN_lt, nN_le, nI_add, pk_mul, nI_S, nI_R4, nI_R64, nI_32, st_eq, st_k, st_j, if_true, if_false, Nat.not_lt_zero, Nat.zero_le]
      · have s1 : we (A 2 c) (r + 1) m = we (A 2 c) r (A 2 c m) := if_neg em
        rw [s1]
        simp +decide (disch := omega) only [f_Co_arrowsEnd_b42, e, p, em, jn_0, jn_1, jn_2, jn_3, jn_4, jn_5, jn_6, jn_7, jn_8, jn_9, jn_10, jn_11, jn_12, jn_13, jn_14, jn_15, jn_16, jn_20, jn_21, jn_22, jn_23, jn_24, jn_25, jn_26, jn_27, jn_28, jn_29, jn_30, jn_31, jn_32, jn_33, jn_34, jn_35, jn_36, jn_37, jn_38, jn_39, jn_40, jn_41, jn_42, jn_43, jn_44, jn_50, js_0, js_1, js_2, js_3, js_4, js_5, js_6, js_7, js_8, js_9, js_10, js_11, js_12, js_13, js_14, js_15, js_16, js_20, js_21, js_22, js_23, js_24, js_25, js_26, js_27, js_28, js_29, js_30, js_31, js_32, js_33, js_34, js_35, js_36, js_37, js_38, js_39, js_40, js_41, js_42, js_43, js_44, js_50, bd_0, bd_1, bd_2, bd_3, let_e, nz_0, nz_1, nz_n0, nz_n1, ix_n, nl_0, nl_1, nl_2, nl_3, nl_4, nl_5, nl_6, nl_7, nl_8, nl_9, nl_10, nl_11, nl_12, nl_16, nl_40, nl_64, nl_200, nl_1000, nl_m, nl_m2, nar_0, nar_1, nI_cl, nI_E, nI_L, nI_T, nI_m, nI_m', nI_ng, nN_lt, nN_le, nI_add, pk_mul, nI_S, nI_R4, nI_R64, nI_32, st_eq, st_k, st_j, if_true, if_false, Nat.not_lt_zero, Nat.zero_le]
        exact ih r (s + 1) _ (by omega) (by omega) g
theorem k_cel {n sh : Nat} {C : mm_M} {A : mm_A} (h : Rp n sh C A) (hn : n ≤ 12) {c : Nat} (hc : c < 3) (h1 : ∀ l, l < n → A 3 c l = 99 ∨ A 3 c l < n) (M : mm_M) : ∀ (K r s m : Nat), s + r = n → r < K → m < n → f_Co_chainEnd_l7 n K (jn C M) c (nI m) (nI s) = some (0, nI (ce (A 3 c) r m), jn C M) := by
  intro K
  induction K with
  | zero =>
    intro r s m _ h2
    omega
  | succ K ih =>
    intro r s m hs h2 hm
    rw [f_Co_chainEnd_l7]
    have p := (h.1 c m hc hm).2.2.1
    have g := h1 m hm
    cases r with
    | zero =>
      have e : n ≤ s := by omega
      simp +decide (disch := omega) only [f_Co_chainEnd_b45, e, ce, jn_0, jn_1, jn_2, jn_3, jn_4, jn_5, jn_6, jn_7, jn_8, jn_9, jn_10, jn_11, jn_12, jn_13, jn_14, jn_15, jn_16, jn_20, jn_21, jn_22, jn_23, jn_24, jn_25, jn_26, jn_27, jn_28, jn_29, jn_30, jn_31, jn_32, jn_33, jn_34, jn_35, jn_36, jn_37, jn_38, jn_39, jn_40, jn_41, jn_42, jn_43, jn_44, jn_50, js_0, js_1, js_2, js_3, js_4, js_5, js_6, js_7, js_8, js_9, js_10, js_11, js_12, js_13, js_14, js_15, js_16, js_20, js_21, js_22, js_23, js_24, js_25, js_26, js_27, js_28, js_29, js_30, js_31, js_32, js_33, js_34, js_35, js_36, js_37, js_38, js_39, js_40, js_41, js_42, js_43, js_44, js_50, bd_0, bd_1, bd_2, bd_3, let_e, nz_0, nz_1, nz_n0, nz_n1, ix_n, nl_0, nl_1, nl_2, nl_3, nl_4, nl_5, nl_6, nl_7, nl_8, nl_9, nl_10, nl_11, nl_12, nl_16, nl_40, nl_64, nl_200, nl_1000, nl_m, nl_m2, nar_0, nar_1, nI_cl, nI_E, nI_L, nI_T, nI_m, nI_m', nI_ng, nN_lt, nN_le, nI_add, pk_mul, nI_S, nI_R4, nI_R64, nI_32, st_eq, st_k, st_j, if_true, if_false, Nat.not_lt_zero, Nat.zero_le]
    | succ r =>
      have e : ¬ n ≤ s := by omega
      by_cases em : A 3 c m = 99
      · have s1 : ce (A 3 c) (r + 1) m = m := if_pos em
        rw [s1]
        rw [em, zf_99] at p
        simp +decide (disch := omega) only [f_Co_chainEnd_b45, e, p, jn_0, jn_1, jn_2, jn_3, jn_4, jn_5, jn_6, jn_7, jn_8, jn_9, jn_10, jn_11, jn_12, jn_13, jn_14, jn_15, jn_16, jn_20, jn_21, jn_22, jn_23, jn_24, jn_25, jn_26, jn_27, jn_28, jn_29, jn_30, jn_31, jn_32, jn_33, jn_34, jn_35, jn_36, jn_37, jn_38, jn_39, jn_40, jn_41, jn_42, jn_43, jn_44, jn_50, js_0, js_1, js_2, js_3, js_4, js_5, js_6, js_7, js_8, js_9, js_10, js_11, js_12, js_13, js_14, js_15, js_16, js_20, js_21, js_22, js_23, js_24, js_25, js_26, js_27, js_28, js_29, js_30, js_31, js_32, js_33, js_34, js_35, js_36, js_37, js_38, js_39, js_40, js_41, js_42, js_43, js_44, js_50, bd_0, bd_1, bd_2, bd_3, let_e, nz_0, nz_1, nz_n0, nz_n1, ix_n, nl_0, nl_1, nl_2, nl_3, nl_4, nl_5, nl_6, nl_7, nl_8, nl_9, nl_10, nl_11, nl_12, nl_16, nl_40, nl_64, nl_200, nl_1000, nl_m, nl_m2, nar_0, nar_1, nI_cl, nI_E, nI_L, nI_T, nI_m, nI_m', nI_ng, nN_lt, nN_le, nI_add, pk_mul, nI_S, nI_R4, nI_R64, nI_32, st_eq, st_k, st_j, if_true, if_false, Nat.not_lt_zero, Nat.zero_le]
      · have s1 : ce (A 3 c) (r + 1) m = ce (A 3 c) r (A 3 c m) := if_neg em
        rw [s1]
        rw [zf_n em] at p
        simp +decide (disch := omega) only [f_Co_chainEnd_b45, e, p, jn_0, jn_1, jn_2, jn_3, jn_4, jn_5, jn_6, jn_7, jn_8, jn_9, jn_10, jn_11, jn_12, jn_13, jn_14, jn_15, jn_16, jn_20, jn_21, jn_22, jn_23, jn_24, jn_25, jn_26, jn_27, jn_28, jn_29, jn_30, jn_31, jn_32, jn_33, jn_34, jn_35, jn_36, jn_37, jn_38, jn_39, jn_40, jn_41, jn_42, jn_43, jn_44, jn_50, js_0, js_1, js_2, js_3, js_4, js_5, js_6, js_7, js_8, js_9, js_10, js_11, js_12, js_13, js_14, js_15, js_16, js_20, js_21, js_22, js_23, js_24, js_25, js_26, js_27, js_28, js_29, js_30, js_31, js_32, js_33, js_34, js_35, js_36, js_37, js_38, js_39, js_40, js_41, js_42, js_43, js_44, js_50, bd_0, bd_1, bd_2, bd_3, let_e, nz_0, nz_1, nz_n0, nz_n1, ix_n, nl_0, nl_1, nl_2, nl_3, nl_4, nl_5, nl_6, nl_7, nl_8, nl_9, nl_10, nl_11, nl_12, nl_16, nl_40, nl_64, nl_200, nl_1000, nl_m, nl_m2, nar_0, nar_1, nI_cl, nI_E, nI_L, nI_T, nI_m, nI_m', nI_ng, nN_lt, nN_le, nI_add, pk_mul, nI_S, nI_R4, nI_R64, nI_32, st_eq, st_k, st_j, if_true, if_false, Nat.not_lt_zero, Nat.zero_le]
        exact ih r (s + 1) _ (by omega) (by omega) (by omega)
theorem ce_lt {n : Nat} {fo : Nat → Nat} (h1 : ∀ l, l < n → fo l = 99 ∨ fo l < n) : ∀ r m, m < n → ce fo r m < n := by
  intro r
  induction r with
  | zero => exact fun m hm => hm
  | succ r ih =>
    intro m hm
    show (if fo m = 99 then m else ce fo r (fo m)) < n
    by_cases e : fo m = 99
    · rw [if_pos e]
      exact hm
    · rw [if_neg e]
      exact ih _ (by rcases h1 m hm with w | w; exact absurd w e; exact w)
theorem we_lt {n : Nat} {ar : Nat → Nat} (h1 : ∀ l, l < n → ar l < n) : ∀ r m, m < n → we ar r m < n := by
  intro r
  induction r with
  | zero => exact fun m hm => hm
  | succ r ih =>
    intro m hm
    show (if ar m = m then m else we ar r (ar m)) < n
    by_cases e : ar m = m
    · rw [if_pos e]
      exact hm
    · rw [if_neg e]
      exact ih _ (h1 m hm)
theorem q_cel {n sh : Nat} {M : mm_M} {A : mm_A} (h : Rm n sh M A) (hn : n ≤ 12) {c : Nat} (hc : c < 3) (h5 : A 5 c 0 ≠ 99) (h1 : ∀ l, l < n → A 3 c l = 99 ∨ A 3 c l < n) (C : mm_M) (w : Nat) (hw : w < n) : ∀ (K r s m : Nat), s + r = 40 → r < K → m < n → f_Mo_leads_l103 n K (jn C M) 0 (nI c) (nI w) (nI m) (nI s) = some (0, nI (if w = ce (A 3 c) r m then 1 else 0), jn C M) := by
  intro K
  induction K with
  | zero =>
    intro r s m _ h2
    omega
  | succ K ih =>
    intro r s m hs h2 hm
    rw [f_Mo_leads_l103]
    have hb : ∀ x, x < n → f_Mo_leads_b143 n (jn C M) (nI w) (nI x) = some (0, nI (if w = x then 1 else 0), jn C M) := fun x hx => by
      by_cases e4 : w = x
      · rw [if_pos e4]
        simp +decide (disch := omega) only [f_Mo_leads_b143, f_Mo_leads_b155, e4, jn_0, jn_1, jn_2, jn_3, jn_4, jn_5, jn_6, jn_7, jn_8, jn_9, jn_10, jn_11, jn_12, jn_13, jn_14, jn_15, jn_16, jn_20, jn_21, jn_22, jn_23, jn_24, jn_25, jn_26, jn_27, jn_28, jn_29, jn_30, jn_31, jn_32, jn_33, jn_34, jn_35, jn_36, jn_37, jn_38, jn_39, jn_40, jn_41, jn_42, jn_43, jn_44, jn_50, js_0, js_1, js_2, js_3, js_4, js_5, js_6, js_7, js_8, js_9, js_10, js_11, js_12, js_13, js_14, js_15, js_16, js_20, js_21, js_22, js_23, js_24, js_25, js_26, js_27, js_28, js_29, js_30, js_31, js_32, js_33, js_34, js_35, js_36, js_37, js_38, js_39, js_40, js_41, js_42, js_43, js_44, js_50, bd_0, bd_1, bd_2, bd_3, let_e, nz_0, nz_1, nz_n0, nz_n1, ix_n, nl_0, nl_1, nl_2, nl_3, nl_4, nl_5, nl_6, nl_7, nl_8, nl_9, nl_10, nl_11, nl_12, nl_16, nl_40, nl_64, nl_200, nl_1000, nl_m, nl_m2, nar_0, nar_1, nI_cl, nI_E, nI_L, nI_T, nI_m, nI_m', nI_ng, nN_lt, nN_le, nI_add, pk_mul, nI_S, nI_R4, nI_R64, nI_32, st_eq, st_k, st_j, if_true, if_false, Nat.not_lt_zero, Nat.zero_le]
      · rw [if_neg e4]
        simp +decide (disch := omega) only [f_Mo_leads_b143, f_Mo_leads_b155, e4, jn_0, jn_1, jn_2, jn_3, jn_4, jn_5, jn_6, jn_7, jn_8, jn_9, jn_10, jn_11, jn_12, jn_13, jn_14, jn_15, jn_16, jn_20, jn_21, jn_22, jn_23, jn_24, jn_25, jn_26, jn_27, jn_28, jn_29, jn_30, jn_31, jn_32, jn_33, jn_34, jn_35, jn_36, jn_37, jn_38, jn_39, jn_40, jn_41, jn_42, jn_43, jn_44, jn_50, js_0, js_1, js_2, js_3, js_4, js_5, js_6, js_7, js_8, js_9, js_10, js_11, js_12, js_13, js_14, js_15, js_16, js_20, js_21, js_22, js_23, js_24, js_25, js_26, js_27, js_28, js_29, js_30, js_31, js_32, js_33, js_34, js_35, js_36, js_37, js_38, js_39, js_40, js_41, js_42, js_43, js_44, js_50, bd_0, bd_1, bd_2, bd_3, let_e, nz_0, nz_1, nz_n0, nz_n1, ix_n, nl_0, nl_1, nl_2, nl_3, nl_4, nl_5, nl_6, nl_7, nl_8, nl_9, nl_10, nl_11, nl_12, nl_16, nl_40, nl_64, nl_200, nl_1000, nl_m, nl_m2, nar_0, nar_1, nI_cl, nI_E, nI_L, nI_T, nI_m, nI_m', nI_ng, nN_lt, nN_le, nI_add, pk_mul, nI_S, nI_R4, nI_R64, nI_32, st_eq, st_k, st_j, if_true, if_false, Nat.not_lt_zero, Nat.zero_le]
    have hb := hb m hm
    have p := ((h.1 c m hc hm).2.1 h5).2
    have g := h1 m hm
    cases r with
    | zero =>
      have e : 40 ≤ s := by omega
      have s1 : ce (A 3 c) 0 m = m := rfl
      rw [s1]
      simp +decide (disch := omega) only [e, hb, jn_0, jn_1, jn_2, jn_3, jn_4, jn_5, jn_6, jn_7, jn_8, jn_9, jn_10, jn_11, jn_12, jn_13, jn_14, jn_15, jn_16, jn_20, jn_21, jn_22, jn_23, jn_24, jn_25, jn_26, jn_27, jn_28, jn_29, jn_30, jn_31, jn_32, jn_33, jn_34, jn_35, jn_36, jn_37, jn_38, jn_39, jn_40, jn_41, jn_42, jn_43, jn_44, jn_50, js_0, js_1, js_2, js_3, js_4, js_5, js_6, js_7, js_8, js_9, js_10, js_11, js_12, js_13, js_14, js_15, js_16, js_20, js_21, js_22, js_23, js_24, js_25, js_26, js_27, js_28, js_29, js_30, js_31, js_32, js_33, js_34, js_35, js_36, js_37, js_38, js_39, js_40, js_41, js_42, js_43, js_44, js_50, bd_0, bd_1, bd_2, bd_3, let_e, nz_0, nz_1, nz_n0, nz_n1, ix_n, nl_0, nl_1, nl_2, nl_3, nl_4, nl_5, nl_6, nl_7, nl_8, nl_9, nl_10, nl_11, nl_12, nl_16, nl_40, nl_64, nl_200, nl_1000, nl_m, nl_m2, nar_0, nar_1, nI_cl, nI_E, nI_L, nI_T, nI_m, nI_m', nI_ng, nN_lt, nN_le, nI_add, pk_mul, nI_S, nI_R4, nI_R64, nI_32, st_eq, st_k, st_j, if_true, if_false, Nat.not_lt_zero, Nat.zero_le]
    | succ r =>
      have e : ¬ 40 ≤ s := by omega
      by_cases em : A 3 c m = 99
      · have s1 : ce (A 3 c) (r + 1) m = m := if_pos em
        rw [s1]
        rw [em, zf_99] at p
        simp +decide (disch := omega) only [f_Mo_at, e, p, hb, jn_0, jn_1, jn_2, jn_3, jn_4, jn_5, jn_6, jn_7, jn_8, jn_9, jn_10, jn_11, jn_12, jn_13, jn_14, jn_15, jn_16, jn_20, jn_21, jn_22, jn_23, jn_24, jn_25, jn_26, jn_27, jn_28, jn_29, jn_30, jn_31, jn_32, jn_33, jn_34, jn_35, jn_36, jn_37, jn_38, jn_39, jn_40, jn_41, jn_42, jn_43, jn_44, jn_50, js_0, js_1, js_2, js_3, js_4, js_5, js_6, js_7, js_8, js_9, js_10, js_11, js_12, js_13, js_14, js_15, js_16, js_20, js_21, js_22, js_23, js_24, js_25, js_26, js_27, js_28, js_29, js_30, js_31, js_32, js_33, js_34, js_35, js_36, js_37, js_38, js_39, js_40, js_41, js_42, js_43, js_44, js_50, bd_0, bd_1, bd_2, bd_3, let_e, nz_0, nz_1, nz_n0, nz_n1, ix_n, nl_0, nl_1, nl_2, nl_3, nl_4, nl_5, nl_6, nl_7, nl_8, nl_9, nl_10, nl_11, nl_12, nl_16, nl_40, nl_64, nl_200, nl_1000, nl_m, nl_m2, nar_0, nar_1, nI_cl, nI_E, nI_L, nI_T, nI_m, nI_m', nI_ng, nN_lt, nN_le, nI_add, pk_mul, nI_S, nI_R4, nI_R64, nI_32, st_eq, st_k, st_j, if_true, if_false, Nat.not_lt_zero, Nat.zero_le]
      · have s1 : ce (A 3 c) (r + 1) m = ce (A 3 c) r (A 3 c m) := if_neg em
        rw [s1]
        rw [zf_n em] at p
        simp +decide (disch := omega) only [f_Mo_at, e, p, jn_0, jn_1, jn_2, jn_3, jn_4, jn_5, jn_6, jn_7, jn_8, jn_9, jn_10, jn_11, jn_12, jn_13, jn_14, jn_15, jn_16, jn_20, jn_21, jn_22, jn_23, jn_24, jn_25, jn_26, jn_27, jn_28, jn_29, jn_30, jn_31, jn_32, jn_33, jn_34, jn_35, jn_36, jn_37, jn_38, jn_39, jn_40, jn_41, jn_42, jn_43, jn_44, jn_50, js_0, js_1, js_2, js_3, js_4, js_5, js_6, js_7, js_8, js_9, js_10, js_11, js_12, js_13, js_14, js_15, js_16, js_20, js_21, js_22, js_23, js_24, js_25, js_26, js_27, js_28, js_29, js_30, js_31, js_32, js_33, js_34, js_35, js_36, js_37, js_38, js_39, js_40, js_41, js_42, js_43, js_44, js_50, bd_0, bd_1, bd_2, bd_3, let_e, nz_0, nz_1, nz_n0, nz_n1, ix_n, nl_0, nl_1, nl_2, nl_3, nl_4, nl_5, nl_6, nl_7, nl_8, nl_9, nl_10, nl_11, nl_12, nl_16, nl_40, nl_64, nl_200, nl_1000, nl_m, nl_m2, nar_0, nar_1, nI_cl, nI_E, nI_L, nI_T, nI_m, nI_m', nI_ng, nN_lt, nN_le, nI_add, pk_mul, nI_S, nI_R4, nI_R64, nI_32, st_eq, st_k, st_j, if_true, if_false, Nat.not_lt_zero, Nat.zero_le]
        exact ih r (s + 1) _ (by omega) (by omega) (by omega)
theorem q_arl {n sh : Nat} {M : mm_M} {A : mm_A} (h : Rm n sh M A) (hn : n ≤ 12) {c : Nat} (hc : c < 3) (h5 : A 5 c 0 ≠ 99) (h5' : A 5 c 0 < n) (h1 : ∀ l, l < n → A 3 c l = 99 ∨ A 3 c l < n) (h2' : ∀ l, l < n → A 2 c l < n) (C : mm_M) : ∀ (K r s m : Nat), s + r = 40 → r < K → m < n → f_Mo_leads_l50 n K (jn C M) 0 (nI c) (nI m) (nI s) = some (0, nI (if we (A 2 c) r m = ce (A 3 c) 40 (A 5 c 0) then 1 else 0), jn C M) := by
  have b := (h.2.1 c hc).1
  rw [zf_n h5] at b
  have hend : ∀ w, w < n → f_Mo_leads_b92 n (jn C M) 0 (nI c) (nI w) = some (0, nI (if w = ce (A 3 c) 40 (A 5 c 0) then 1 else 0), jn C M) := fun w hw => by
    have q := q_cel h hn hc h5 h1 C w hw 4096 40 0 (A 5 c 0) (by omega) (by omega) h5'
    unfold f_Mo_leads_b92
    rw [ix_n hc (by decide), jn_30, nI_cl (by omega), b]
    exact q
  intro K
  induction K with
  | zero =>
    intro r s m _ h2
    omega
  | succ K ih =>
    intro r s m hs h2 hm
    rw [f_Mo_leads_l50]
    have p := ((h.1 c m hc hm).2.1 h5).1
    have g := h2' m hm
    rw [zf_n (by omega)] at p
    have he := hend m hm
    cases r with
    | zero =>
      have e : 40 ≤ s := by omega
      have s1 : we (A 2 c) 0 m = m := rfl
      rw [s1]
      simp +decide (disch := omega) only [e, he, jn_0, jn_1, jn_2, jn_3, jn_4, jn_5, jn_6, jn_7, jn_8, jn_9, jn_10, jn_11, jn_12, jn_13, jn_14, jn_15, jn_16, jn_20, jn_21, jn_22, jn_23, jn_24, jn_25, jn_26, jn_27, jn_28, jn_29, jn_30, jn_31, jn_32, jn_33, jn_34, jn_35, jn_36, jn_37, jn_38, jn_39, jn_40, jn_41, jn_42, jn_43, jn_44, jn_50, js_0, js_1, js_2, js_3, js_4, js_5, js_6, js_7, js_8, js_9, js_10, js_11, js_12, js_13, js_14, js_15, js_16, js_20, js_21, js_22, js_23, js_24, js_25, js_26, js_27, js_28, js_29, js_30, js_31, js_32, js_33, js_34, js_35, js_36, js_37, js_38, js_39, js_40, js_41, js_42, js_43, js_44, js_50, bd_0, bd_1, bd_2, bd_3, let_e, nz_0, nz_1, nz_n0, nz_n1, ix_n, nl_0, nl_1, nl_2, nl_3, nl_4, nl_5, nl_6, nl_7, nl_8, nl_9, nl_10, nl_11, nl_12, nl_16, nl_40, nl_64, nl_200, nl_1000, nl_m, nl_m2, nar_0, nar_1, nI_cl, nI_E, nI_L, nI_T, nI_m, nI_m', nI_ng, nN_lt, nN_le, nI_add, pk_mul, nI_S, nI_R4, nI_R64, nI_32, st_eq, st_k, st_j, if_true, if_false, Nat.not_lt_zero, Nat.zero_le]
    | succ r =>
      have e : ¬ 40 ≤ s := by omega
      by_cases em : A 2 c m = m
      · have s1 : we (A 2 c) (r + 1) m = m := if_pos em
        rw [s1]
        rw [em] at p
        simp +decide (disch := omega) only [f_Mo_at, e, p, he, jn_0, jn_1, jn_2, jn_3, jn_4, jn_5, jn_6, jn_7, jn_8, jn_9, jn_10, jn_11, jn_12, jn_13, jn_14, jn_15, jn_16, jn_20, jn_21, jn_22, jn_23, jn_24, jn_25, jn_26, jn_27, jn_28, jn_29, jn_30, jn_31, jn_32, jn_33, jn_34, jn_35, jn_36, jn_37, jn_38, jn_39, jn_40, jn_41, jn_42, jn_43, jn_44, jn_50, js_0, js_1, js_2, js_3, js_4, js_5, js_6, js_7, js_8, js_9, js_10, js_11, js_12, js_13, js_14, js_15, js_16, js_20, js_21, js_22, js_23, js_24, js_25, js_26, js_27, js_28, js_29, js_30, js_31, js_32, js_33, js_34, js_35, js_36, js_37, js_38, js_39, js_40, js_41, js_42, js_43, js_44, js_50, bd_0, bd_1, bd_2, bd_3, let_e, nz_0, nz_1, nz_n0, nz_n1, ix_n, nl_0, nl_1, nl_2, nl_3, nl_4, nl_5, nl_6, nl_7, nl_8, nl_9, nl_10, nl_11, nl_12, nl_16, nl_40, nl_64, nl_200, nl_1000, nl_m, nl_m2, nar_0, nar_1, nI_cl, nI_E, nI_L, nI_T, nI_m, nI_m', nI_ng, nN_lt, nN_le, nI_add, pk_mul, nI_S, nI_R4, nI_R64, nI_32, st_eq, st_k, st_j, if_true, if_false, Nat.not_lt_zero, Nat.zero_le]
      · have s1 : we (A 2 c) (r + 1) m = we (A 2 c) r (A 2 c m) := if_neg em
        rw [s1]
        simp +decide (disch := omega) only [f_Mo_at, e, p, em, jn_0, jn_1, jn_2, jn_3, jn_4, jn_5, jn_6, jn_7, jn_8, jn_9, jn_10, jn_11, jn_12, jn_13, jn_14, jn_15, jn_16, jn_20, jn_21, jn_22, jn_23, jn_24, jn_25, jn_26, jn_27, jn_28, jn_29, jn_30, jn_31, jn_32, jn_33, jn_34, jn_35, jn_36, jn_37, jn_38, jn_39, jn_40, jn_41, jn_42, jn_43, jn_44, jn_50, js_0, js_1, js_2, js_3, js_4, js_5, js_6, js_7, js_8, js_9, js_10, js_11, js_12, js_13, js_14, js_15, js_16, js_20, js_21, js_22, js_23, js_24, js_25, js_26, js_27, js_28, js_29, js_30, js_31, js_32, js_33, js_34, js_35, js_36, js_37, js_38, js_39, js_40, js_41, js_42, js_43, js_44, js_50, bd_0, bd_1, bd_2, bd_3, let_e, nz_0, nz_1, nz_n0, nz_n1, ix_n, nl_0, nl_1, nl_2, nl_3, nl_4, nl_5, nl_6, nl_7, nl_8, nl_9, nl_10, nl_11, nl_12, nl_16, nl_40, nl_64, nl_200, nl_1000, nl_m, nl_m2, nar_0, nar_1, nI_cl, nI_E, nI_L, nI_T, nI_m, nI_m', nI_ng, nN_lt, nN_le, nI_add, pk_mul, nI_S, nI_R4, nI_R64, nI_32, st_eq, st_k, st_j, if_true, if_false, Nat.not_lt_zero, Nat.zero_le]
        exact ih r (s + 1) _ (by omega) (by omega) g
theorem ag_leads {n sh T : Nat} {A : mm_A} {C : mm_M} (hs : sh < 3) (hn : n ≤ 12) (hn2 : 2 ≤ n) (hR : Rp n sh C A) (hP : Pr n sh T A) (x y : Int32) : AG n sh T A C (fun g => f_LA_leads n g 0 x y) (fun g => f_Mo_leads n g 0 x y) [0, 1, 3] th1 := by
  obtain ⟨F, hF⟩ : ∃ F, F = 4096 := ⟨4096, rfl⟩
  have u : ∀ (g : mm_M) (x1 x2 t1 t2 : Int32), f_Mo_leads_b35 n g 0 x1 x2 0 t1 t2 = mm_bd (f_Mo_refused n g 0 t1 t2 0) 0 (fun z1 g2 => (if z1 = 0 then f_Mo_leads_l50 n F g2 0 x2 x1 0 else mm_nz 0 (some (0, 0, g2)))) := fun g x1 x2 t1 t2 => by
    rw [hF]
    unfold f_Mo_leads_b35
    rfl
  rcases tri n (by omega) x with hb | ⟨l, hl, rfl⟩
  · refine AG_same hR hP 1 (by simp) (v := nI 0) (v' := nI 0) (fun M => ?_) (fun M hM => ?_) (fun _ => rfl)
    · simp +decide (disch := omega) only [f_LA_leads_b42, f_LA_leads, k_rlb hR hb, jn_0, jn_1, jn_2, jn_3, jn_4, jn_5, jn_6, jn_7, jn_8, jn_9, jn_10, jn_11, jn_12, jn_13, jn_14, jn_15, jn_16, jn_20, jn_21, jn_22, jn_23, jn_24, jn_25, jn_26, jn_27, jn_28, jn_29, jn_30, jn_31, jn_32, jn_33, jn_34, jn_35, jn_36, jn_37, jn_38, jn_39, jn_40, jn_41, jn_42, jn_43, jn_44, jn_50, js_0, js_1, js_2, js_3, js_4, js_5, js_6, js_7, js_8, js_9, js_10, js_11, js_12, js_13, js_14, js_15, js_16, js_20, js_21, js_22, js_23, js_24, js_25, js_26, js_27, js_28, js_29, js_30, js_31, js_32, js_33, js_34, js_35, js_36, js_37, js_38, js_39, js_40, js_41, js_42, js_43, js_44, js_50, bd_0, bd_1, bd_2, bd_3, let_e, nz_0, nz_1, nz_n0, nz_n1, ix_n, nl_0, nl_1, nl_2, nl_3, nl_4, nl_5, nl_6, nl_7, nl_8, nl_9, nl_10, nl_11, nl_12, nl_16, nl_40, nl_64, nl_200, nl_1000, nl_m, nl_m2, nar_0, nar_1, nI_cl, nI_E, nI_L, nI_T, nI_m, nI_m', nI_ng, nN_lt, nN_le, nI_add, pk_mul, nI_S, nI_R4, nI_R64, nI_32, st_eq, st_k, st_j, if_true, if_false, Nat.not_lt_zero, Nat.zero_le]
    · clear hF
      simp +decide (disch := omega) only [f_Mo_leads, f_Mo_leads_b14, f_Mo_leads_b34, u, q_ipl hM hb, q_r1, th1, jn_0, jn_1, jn_2, jn_3, jn_4, jn_5, jn_6, jn_7, jn_8, jn_9, jn_10, jn_11, jn_12, jn_13, jn_14, jn_15, jn_16, jn_20, jn_21, jn_22, jn_23, jn_24, jn_25, jn_26, jn_27, jn_28, jn_29, jn_30, jn_31, jn_32, jn_33, jn_34, jn_35, jn_36, jn_37, jn_38, jn_39, jn_40, jn_41, jn_42, jn_43, jn_44, jn_50, js_0, js_1, js_2, js_3, js_4, js_5, js_6, js_7, js_8, js_9, js_10, js_11, js_12, js_13, js_14, js_15, js_16, js_20, js_21, js_22, js_23, js_24, js_25, js_26, js_27, js_28, js_29, js_30, js_31, js_32, js_33, js_34, js_35, js_36, js_37, js_38, js_39, js_40, js_41, js_42, js_43, js_44, js_50, bd_0, bd_1, bd_2, bd_3, let_e, nz_0, nz_1, nz_n0, nz_n1, ix_n, nl_0, nl_1, nl_2, nl_3, nl_4, nl_5, nl_6, nl_7, nl_8, nl_9, nl_10, nl_11, nl_12, nl_16, nl_40, nl_64, nl_200, nl_1000, nl_m, nl_m2, nar_0, nar_1, nI_cl, nI_E, nI_L, nI_T, nI_m, nI_m', nI_ng, nN_lt, nN_le, nI_add, pk_mul, nI_S, nI_R4, nI_R64, nI_32, st_eq, st_k, st_j, if_true, if_false, Nat.not_lt_zero, Nat.zero_le]
  rcases tri 3 (by decide) y with hb | ⟨c, hc, rfl⟩
  · refine AG_same hR hP 1 (by simp) (v := nI 0) (v' := nI 0) (fun M => ?_) (fun M hM => ?_) (fun _ => rfl)
    · simp +decide (disch := omega) only [f_LA_leads_b42, f_LA_leads, k_rl hR hn hl, k_rcb hb, jn_0, jn_1, jn_2, jn_3, jn_4, jn_5, jn_6, jn_7, jn_8, jn_9, jn_10, jn_11, jn_12, jn_13, jn_14, jn_15, jn_16, jn_20, jn_21, jn_22, jn_23, jn_24, jn_25, jn_26, jn_27, jn_28, jn_29, jn_30, jn_31, jn_32, jn_33, jn_34, jn_35, jn_36, jn_37, jn_38, jn_39, jn_40, jn_41, jn_42, jn_43, jn_44, jn_50, js_0, js_1, js_2, js_3, js_4, js_5, js_6, js_7, js_8, js_9, js_10, js_11, js_12, js_13, js_14, js_15, js_16, js_20, js_21, js_22, js_23, js_24, js_25, js_26, js_27, js_28, js_29, js_30, js_31, js_32, js_33, js_34, js_35, js_36, js_37, js_38, js_39, js_40, js_41, js_42, js_43, js_44, js_50, bd_0, bd_1, bd_2, bd_3, let_e, nz_0, nz_1, nz_n0, nz_n1, ix_n, nl_0, nl_1, nl_2, nl_3, nl_4, nl_5, nl_6, nl_7, nl_8, nl_9, nl_10, nl_11, nl_12, nl_16, nl_40, nl_64, nl_200, nl_1000, nl_m, nl_m2, nar_0, nar_1, nI_cl, nI_E, nI_L, nI_T, nI_m, nI_m', nI_ng, nN_lt, nN_le, nI_add, pk_mul, nI_S, nI_R4, nI_R64, nI_32, st_eq, st_k, st_j, if_true, if_false, Nat.not_lt_zero, Nat.zero_le]
    · clear hF
      simp +decide (disch := omega) only [f_Mo_leads, f_Mo_leads_b14, f_Mo_leads_b34, u, q_ipc hM hn hl hb, q_r1, th1, jn_0, jn_1, jn_2, jn_3, jn_4, jn_5, jn_6, jn_7, jn_8, jn_9, jn_10, jn_11, jn_12, jn_13, jn_14, jn_15, jn_16, jn_20, jn_21, jn_22, jn_23, jn_24, jn_25, jn_26, jn_27, jn_28, jn_29, jn_30, jn_31, jn_32, jn_33, jn_34, jn_35, jn_36, jn_37, jn_38, jn_39, jn_40, jn_41, jn_42, jn_43, jn_44, jn_50, js_0, js_1, js_2, js_3, js_4, js_5, js_6, js_7, js_8, js_9, js_10, js_11, js_12, js_13, js_14, js_15, js_16, js_20, js_21, js_22, js_23, js_24, js_25, js_26, js_27, js_28, js_29, js_30, js_31, js_32, js_33, js_34, js_35, js_36, js_37, js_38, js_39, js_40, js_41, js_42, js_43, js_44, js_50, bd_0, bd_1, bd_2, bd_3, let_e, nz_0, nz_1, nz_n0, nz_n1, ix_n, nl_0, nl_1, nl_2, nl_3, nl_4, nl_5, nl_6, nl_7, nl_8, nl_9, nl_10, nl_11, nl_12, nl_16, nl_40, nl_64, nl_200, nl_1000, nl_m, nl_m2, nar_0, nar_1, nI_cl, nI_E, nI_L, nI_T, nI_m, nI_m', nI_ng, nN_lt, nN_le, nI_add, pk_mul, nI_S, nI_R4, nI_R64, nI_32, st_eq, st_k, st_j, if_true, if_false, Nat.not_lt_zero, Nat.zero_le]
  have hw := wh_lt hP hn hc
  by_cases h5 : A 5 c 0 = 99
  · refine AG_same hR hP 3 (by simp) (v := nI 0) (v' := nI 0) (fun M => ?_) (fun M hM => ?_) (fun _ => rfl)
    · have pl : f_LA_requirePlaced n (jn C M) 0 (nI c) = some (3, nI 0, jn C M) := by
        simp +decide (disch := omega) only [f_LA_requirePlaced, k_isPn hR hc h5, jn_0, jn_1, jn_2, jn_3, jn_4, jn_5, jn_6, jn_7, jn_8, jn_9, jn_10, jn_11, jn_12, jn_13, jn_14, jn_15, jn_16, jn_20, jn_21, jn_22, jn_23, jn_24, jn_25, jn_26, jn_27, jn_28, jn_29, jn_30, jn_31, jn_32, jn_33, jn_34, jn_35, jn_36, jn_37, jn_38, jn_39, jn_40, jn_41, jn_42, jn_43, jn_44, jn_50, js_0, js_1, js_2, js_3, js_4, js_5, js_6, js_7, js_8, js_9, js_10, js_11, js_12, js_13, js_14, js_15, js_16, js_20, js_21, js_22, js_23, js_24, js_25, js_26, js_27, js_28, js_29, js_30, js_31, js_32, js_33, js_34, js_35, js_36, js_37, js_38, js_39, js_40, js_41, js_42, js_43, js_44, js_50, bd_0, bd_1, bd_2, bd_3, let_e, nz_0, nz_1, nz_n0, nz_n1, ix_n, nl_0, nl_1, nl_2, nl_3, nl_4, nl_5, nl_6, nl_7, nl_8, nl_9, nl_10, nl_11, nl_12, nl_16, nl_40, nl_64, nl_200, nl_1000, nl_m, nl_m2, nar_0, nar_1, nI_cl, nI_E, nI_L, nI_T, nI_m, nI_m', nI_ng, nN_lt, nN_le, nI_add, pk_mul, nI_S, nI_R4, nI_R64, nI_32, st_eq, st_k, st_j, if_true, if_false, Nat.not_lt_zero, Nat.zero_le]
      simp +decide (disch := omega) only [f_LA_leads_b42, f_LA_leads, k_rl hR hn hl, k_rc hc, pl, jn_0, jn_1, jn_2, jn_3, jn_4, jn_5, jn_6, jn_7, jn_8, jn_9, jn_10, jn_11, jn_12, jn_13, jn_14, jn_15, jn_16, jn_20, jn_21, jn_22, jn_23, jn_24, jn_25, jn_26, jn_27, jn_28, jn_29, jn_30, jn_31, jn_32, jn_33, jn_34, jn_35, jn_36, jn_37, jn_38, jn_39, jn_40, jn_41, jn_42, jn_43, jn_44, jn_50, js_0, js_1, js_2, js_3, js_4, js_5, js_6, js_7, js_8, js_9, js_10, js_11, js_12, js_13, js_14, js_15, js_16, js_20, js_21, js_22, js_23, js_24, js_25, js_26, js_27, js_28, js_29, js_30, js_31, js_32, js_33, js_34, js_35, js_36, js_37, js_38, js_39, js_40, js_41, js_42, js_43, js_44, js_50, bd_0, bd_1, bd_2, bd_3, let_e, nz_0, nz_1, nz_n0, nz_n1, ix_n, nl_0, nl_1, nl_2, nl_3, nl_4, nl_5, nl_6, nl_7, nl_8, nl_9, nl_10, nl_11, nl_12, nl_16, nl_40, nl_64, nl_200, nl_1000, nl_m, nl_m2, nar_0, nar_1, nI_cl, nI_E, nI_L, nI_T, nI_m, nI_m', nI_ng, nN_lt, nN_le, nI_add, pk_mul, nI_S, nI_R4, nI_R64, nI_32, st_eq, st_k, st_j, if_true, if_false, Nat.not_lt_zero, Nat.zero_le]
    · have b3 := (hM.2.1 c hc).2.2.2.1
      rw [if_pos h5] at b3
      clear hF
      simp +decide (disch := omega) only [f_Mo_leads, f_Mo_leads_b14, f_Mo_leads_b34, u, q_ip hM hn hl hc, b3, q_r2, th1, jn_0, jn_1, jn_2, jn_3, jn_4, jn_5, jn_6, jn_7, jn_8, jn_9, jn_10, jn_11, jn_12, jn_13, jn_14, jn_15, jn_16, jn_20, jn_21, jn_22, jn_23, jn_24, jn_25, jn_26, jn_27, jn_28, jn_29, jn_30, jn_31, jn_32, jn_33, jn_34, jn_35, jn_36, jn_37, jn_38, jn_39, jn_40, jn_41, jn_42, jn_43, jn_44, jn_50, js_0, js_1, js_2, js_3, js_4, js_5, js_6, js_7, js_8, js_9, js_10, js_11, js_12, js_13, js_14, js_15, js_16, js_20, js_21, js_22, js_23, js_24, js_25, js_26, js_27, js_28, js_29, js_30, js_31, js_32, js_33, js_34, js_35, js_36, js_37, js_38, js_39, js_40, js_41, js_42, js_43, js_44, js_50, bd_0, bd_1, bd_2, bd_3, let_e, nz_0, nz_1, nz_n0, nz_n1, ix_n, nl_0, nl_1, nl_2, nl_3, nl_4, nl_5, nl_6, nl_7, nl_8, nl_9, nl_10, nl_11, nl_12, nl_16, nl_40, nl_64, nl_200, nl_1000, nl_m, nl_m2, nar_0, nar_1, nI_cl, nI_E, nI_L, nI_T, nI_m, nI_m', nI_ng, nN_lt, nN_le, nI_add, pk_mul, nI_S, nI_R4, nI_R64, nI_32, st_eq, st_k, st_j, if_true, if_false, Nat.not_lt_zero, Nat.zero_le]
  · have q := (hP.2.1 c hc).2.2.2 h5
    obtain ⟨g1, g2, g3⟩ := chain_facts hP hn hc
    have a := hR.2.1 c hc
    have hwn := q.1.1
    have h2' : ∀ m, m < n → A 2 c m < n := fun m hm => (q.2.1 m hm).1
    have aw := a.1
    rw [zf_n h5] at aw
    have we4 := we_40 (sh := sh) hs (by omega) (ar := A 2 c) (fun m hm => ⟨(q.2.1 m hm).1, (q.2.1 m hm).2.1⟩) q.2.2.2.2.2.2.2.2.2.2.1 hl
    have ce4 : ce (A 3 c) 40 (A 5 c 0) = ce (A 3 c) n (A 5 c 0) := by
      have e := ce_end (A 3 c) (n - 1) (A 5 c 0) h5 (by rw [show n - 1 + 1 = n by omega]; exact g2)
      have e1 := ce_add (A 3 c) (n - 1) 1 (A 5 c 0) e
      have e2 := ce_add (A 3 c) (n - 1) (40 - (n - 1)) (A 5 c 0) e
      rw [show n - 1 + 1 = n by omega] at e1
      rw [show n - 1 + (40 - (n - 1)) = 40 by omega] at e2
      rw [e1, e2]
    have pl : ∀ M, f_LA_requirePlaced n (jn C M) 0 (nI c) = some (0, nI 0, jn C M) := fun M => by
      simp +decide (disch := omega) only [f_LA_requirePlaced, k_isP hR hc h5, jn_0, jn_1, jn_2, jn_3, jn_4, jn_5, jn_6, jn_7, jn_8, jn_9, jn_10, jn_11, jn_12, jn_13, jn_14, jn_15, jn_16, jn_20, jn_21, jn_22, jn_23, jn_24, jn_25, jn_26, jn_27, jn_28, jn_29, jn_30, jn_31, jn_32, jn_33, jn_34, jn_35, jn_36, jn_37, jn_38, jn_39, jn_40, jn_41, jn_42, jn_43, jn_44, jn_50, js_0, js_1, js_2, js_3, js_4, js_5, js_6, js_7, js_8, js_9, js_10, js_11, js_12, js_13, js_14, js_15, js_16, js_20, js_21, js_22, js_23, js_24, js_25, js_26, js_27, js_28, js_29, js_30, js_31, js_32, js_33, js_34, js_35, js_36, js_37, js_38, js_39, js_40, js_41, js_42, js_43, js_44, js_50, bd_0, bd_1, bd_2, bd_3, let_e, nz_0, nz_1, nz_n0, nz_n1, ix_n, nl_0, nl_1, nl_2, nl_3, nl_4, nl_5, nl_6, nl_7, nl_8, nl_9, nl_10, nl_11, nl_12, nl_16, nl_40, nl_64, nl_200, nl_1000, nl_m, nl_m2, nar_0, nar_1, nI_cl, nI_E, nI_L, nI_T, nI_m, nI_m', nI_ng, nN_lt, nN_le, nI_add, pk_mul, nI_S, nI_R4, nI_R64, nI_32, st_eq, st_k, st_j, if_true, if_false, Nat.not_lt_zero, Nat.zero_le]
    have ea : ∀ M, f_Co_arrowsEnd n (jn C M) c (nI l) = some (0, nI (we (A 2 c) n l), jn C M) := fun M => by
      unfold f_Co_arrowsEnd
      exact k_arl hR hn hc h2' M 4096 n 0 l (by omega) (by omega) hl
    have ec : ∀ M, f_Co_chainEnd n (jn C M) c = some (0, nI (ce (A 3 c) n (A 5 c 0)), jn C M) := fun M => by
      unfold f_Co_chainEnd
      rw [jn_5, aw]
      exact k_cel hR hn hc g1 M 4096 n 0 _ (by omega) (by omega) hwn
    have l1 := we_lt h2' n l hl
    have l2 := ce_lt g1 n _ hwn
    refine AG_same hR hP 0 (by simp) (v := nI (if we (A 2 c) n l = ce (A 3 c) n (A 5 c 0) then 1 else 0)) (v' := nI (if we (A 2 c) n l = ce (A 3 c) n (A 5 c 0) then 1 else 0)) (fun M => ?_) (fun M hM => ?_) (fun _ => rfl)
    · by_cases e : we (A 2 c) n l = ce (A 3 c) n (A 5 c 0)
      · rw [if_pos e]
        simp +decide (disch := omega) only [f_LA_leads_b42, f_LA_leads, k_rl hR hn hl, k_rc hc, pl, ea, ec, e, jn_0, jn_1, jn_2, jn_3, jn_4, jn_5, jn_6, jn_7, jn_8, jn_9, jn_10, jn_11, jn_12, jn_13, jn_14, jn_15, jn_16, jn_20, jn_21, jn_22, jn_23, jn_24, jn_25, jn_26, jn_27, jn_28, jn_29, jn_30, jn_31, jn_32, jn_33, jn_34, jn_35, jn_36, jn_37, jn_38, jn_39, jn_40, jn_41, jn_42, jn_43, jn_44, jn_50, js_0, js_1, js_2, js_3, js_4, js_5, js_6, js_7, js_8, js_9, js_10, js_11, js_12, js_13, js_14, js_15, js_16, js_20, js_21, js_22, js_23, js_24, js_25, js_26, js_27, js_28, js_29, js_30, js_31, js_32, js_33, js_34, js_35, js_36, js_37, js_38, js_39, js_40, js_41, js_42, js_43, js_44, js_50, bd_0, bd_1, bd_2, bd_3, let_e, nz_0, nz_1, nz_n0, nz_n1, ix_n, nl_0, nl_1, nl_2, nl_3, nl_4, nl_5, nl_6, nl_7, nl_8, nl_9, nl_10, nl_11, nl_12, nl_16, nl_40, nl_64, nl_200, nl_1000, nl_m, nl_m2, nar_0, nar_1, nI_cl, nI_E, nI_L, nI_T, nI_m, nI_m', nI_ng, nN_lt, nN_le, nI_add, pk_mul, nI_S, nI_R4, nI_R64, nI_32, st_eq, st_k, st_j, if_true, if_false, Nat.not_lt_zero, Nat.zero_le]
      · rw [if_neg e]
        simp +decide (disch := omega) only [f_LA_leads_b42, f_LA_leads, k_rl hR hn hl, k_rc hc, pl, ea, ec, e, jn_0, jn_1, jn_2, jn_3, jn_4, jn_5, jn_6, jn_7, jn_8, jn_9, jn_10, jn_11, jn_12, jn_13, jn_14, jn_15, jn_16, jn_20, jn_21, jn_22, jn_23, jn_24, jn_25, jn_26, jn_27, jn_28, jn_29, jn_30, jn_31, jn_32, jn_33, jn_34, jn_35, jn_36, jn_37, jn_38, jn_39, jn_40, jn_41, jn_42, jn_43, jn_44, jn_50, js_0, js_1, js_2, js_3, js_4, js_5, js_6, js_7, js_8, js_9, js_10, js_11, js_12, js_13, js_14, js_15, js_16, js_20, js_21, js_22, js_23, js_24, js_25, js_26, js_27, js_28, js_29, js_30, js_31, js_32, js_33, js_34, js_35, js_36, js_37, js_38, js_39, js_40, js_41, js_42, js_43, js_44, js_50, bd_0, bd_1, bd_2, bd_3, let_e, nz_0, nz_1, nz_n0, nz_n1, ix_n, nl_0, nl_1, nl_2, nl_3, nl_4, nl_5, nl_6, nl_7, nl_8, nl_9, nl_10, nl_11, nl_12, nl_16, nl_40, nl_64, nl_200, nl_1000, nl_m, nl_m2, nar_0, nar_1, nI_cl, nI_E, nI_L, nI_T, nI_m, nI_m', nI_ng, nN_lt, nN_le, nI_add, pk_mul, nI_S, nI_R4, nI_R64, nI_32, st_eq, st_k, st_j, if_true, if_false, Nat.not_lt_zero, Nat.zero_le]
    · have b3 := (hM.2.1 c hc).2.2.2.1
      rw [if_neg h5] at b3
      have qq := q_arl (Rm_th (v := nI 0) hM) hn hc h5 hwn g1 h2' C 4096 40 0 l (by omega) (by omega) hl
      rw [we4, ce4, ← hF] at qq
      clear hF
      simp +decide (disch := omega) only [f_Mo_leads, f_Mo_leads_b14, f_Mo_leads_b34, u, q_ip hM hn hl hc, b3, q_r0, th1, jn_0, jn_1, jn_2, jn_3, jn_4, jn_5, jn_6, jn_7, jn_8, jn_9, jn_10, jn_11, jn_12, jn_13, jn_14, jn_15, jn_16, jn_20, jn_21, jn_22, jn_23, jn_24, jn_25, jn_26, jn_27, jn_28, jn_29, jn_30, jn_31, jn_32, jn_33, jn_34, jn_35, jn_36, jn_37, jn_38, jn_39, jn_40, jn_41, jn_42, jn_43, jn_44, jn_50, js_0, js_1, js_2, js_3, js_4, js_5, js_6, js_7, js_8, js_9, js_10, js_11, js_12, js_13, js_14, js_15, js_16, js_20, js_21, js_22, js_23, js_24, js_25, js_26, js_27, js_28, js_29, js_30, js_31, js_32, js_33, js_34, js_35, js_36, js_37, js_38, js_39, js_40, js_41, js_42, js_43, js_44, js_50, bd_0, bd_1, bd_2, bd_3, let_e, nz_0, nz_1, nz_n0, nz_n1, ix_n, nl_0, nl_1, nl_2, nl_3, nl_4, nl_5, nl_6, nl_7, nl_8, nl_9, nl_10, nl_11, nl_12, nl_16, nl_40, nl_64, nl_200, nl_1000, nl_m, nl_m2, nar_0, nar_1, nI_cl, nI_E, nI_L, nI_T, nI_m, nI_m', nI_ng, nN_lt, nN_le, nI_add, pk_mul, nI_S, nI_R4, nI_R64, nI_32, st_eq, st_k, st_j, if_true, if_false, Nat.not_lt_zero, Nat.zero_le]
      exact qq
def eL (A : mm_A) : Nat → Nat → Bool
  | 0, _ => true
  | m + 1, d => decide (A 6 d 0 = A 6 d 1) && eL A m (d + 1)
theorem k_eL {n sh T : Nat} {C : mm_M} {A : mm_A} (h : Rp n sh C A) (hP : Pr n sh T A) (hn : n ≤ 12) (hT : T ≤ 1000000) (M : mm_M) : ∀ (K m d : Nat), d + m = 2 * n → m < K → f_Ma_isEmpty_l2 n K (jn C M) 0 (nI d) = some (0, nI (if eL A m d then 1 else 0), jn C M) := by
  intro K
  induction K with
  | zero =>
    intro m d _ h2
    omega
  | succ K ih =>
    intro m d hs h2
    rw [f_Ma_isEmpty_l2]
    cases m with
    | zero =>
      have e : 2 * n ≤ d := by omega
      simp +decide (disch := omega) only [e, eL, jn_0, jn_1, jn_2, jn_3, jn_4, jn_5, jn_6, jn_7, jn_8, jn_9, jn_10, jn_11, jn_12, jn_13, jn_14, jn_15, jn_16, jn_20, jn_21, jn_22, jn_23, jn_24, jn_25, jn_26, jn_27, jn_28, jn_29, jn_30, jn_31, jn_32, jn_33, jn_34, jn_35, jn_36, jn_37, jn_38, jn_39, jn_40, jn_41, jn_42, jn_43, jn_44, jn_50, js_0, js_1, js_2, js_3, js_4, js_5, js_6, js_7, js_8, js_9, js_10, js_11, js_12, js_13, js_14, js_15, js_16, js_20, js_21, js_22, js_23, js_24, js_25, js_26, js_27, js_28, js_29, js_30, js_31, js_32, js_33, js_34, js_35, js_36, js_37, js_38, js_39, js_40, js_41, js_42, js_43, js_44, js_50, bd_0, bd_1, bd_2, bd_3, let_e, nz_0, nz_1, nz_n0, nz_n1, ix_n, nl_0, nl_1, nl_2, nl_3, nl_4, nl_5, nl_6, nl_7, nl_8, nl_9, nl_10, nl_11, nl_12, nl_16, nl_40, nl_64, nl_200, nl_1000, nl_m, nl_m2, nar_0, nar_1, nI_cl, nI_E, nI_L, nI_T, nI_m, nI_m', nI_ng, nN_lt, nN_le, nI_add, pk_mul, nI_S, nI_R4, nI_R64, nI_32, st_eq, st_k, st_j, if_true, if_false, Nat.not_lt_zero, Nat.zero_le]
    | succ m =>
      have e : ¬ 2 * n ≤ d := by omega
      have hd : d < 2 * n := by omega
      have z := hP.2.2.1 d hd
      have em := k_empty h hd (by omega) (by omega) M
      by_cases w : A 6 d 0 = A 6 d 1
      · rw [if_pos w] at em
        have s1 : eL A (m + 1) d = eL A m (d + 1) := by simp [eL, w]
        rw [s1]
        simp +decide (disch := omega) only [e, em, jn_0, jn_1, jn_2, jn_3, jn_4, jn_5, jn_6, jn_7, jn_8, jn_9, jn_10, jn_11, jn_12, jn_13, jn_14, jn_15, jn_16, jn_20, jn_21, jn_22, jn_23, jn_24, jn_25, jn_26, jn_27, jn_28, jn_29, jn_30, jn_31, jn_32, jn_33, jn_34, jn_35, jn_36, jn_37, jn_38, jn_39, jn_40, jn_41, jn_42, jn_43, jn_44, jn_50, js_0, js_1, js_2, js_3, js_4, js_5, js_6, js_7, js_8, js_9, js_10, js_11, js_12, js_13, js_14, js_15, js_16, js_20, js_21, js_22, js_23, js_24, js_25, js_26, js_27, js_28, js_29, js_30, js_31, js_32, js_33, js_34, js_35, js_36, js_37, js_38, js_39, js_40, js_41, js_42, js_43, js_44, js_50, bd_0, bd_1, bd_2, bd_3, let_e, nz_0, nz_1, nz_n0, nz_n1, ix_n, nl_0, nl_1, nl_2, nl_3, nl_4, nl_5, nl_6, nl_7, nl_8, nl_9, nl_10, nl_11, nl_12, nl_16, nl_40, nl_64, nl_200, nl_1000, nl_m, nl_m2, nar_0, nar_1, nI_cl, nI_E, nI_L, nI_T, nI_m, nI_m', nI_ng, nN_lt, nN_le, nI_add, pk_mul, nI_S, nI_R4, nI_R64, nI_32, st_eq, st_k, st_j, if_true, if_false, Nat.not_lt_zero, Nat.zero_le]
        exact ih m (d + 1) (by omega) (by omega)
      · rw [if_neg w] at em
        have s1 : eL A (m + 1) d = false := by simp [eL, w]
        rw [s1]
        simp +decide (disch := omega) only [e, em, Bool.false_eq_true, jn_0, jn_1, jn_2, jn_3, jn_4, jn_5, jn_6, jn_7, jn_8, jn_9, jn_10, jn_11, jn_12, jn_13, jn_14, jn_15, jn_16, jn_20, jn_21, jn_22, jn_23, jn_24, jn_25, jn_26, jn_27, jn_28, jn_29, jn_30, jn_31, jn_32, jn_33, jn_34, jn_35, jn_36, jn_37, jn_38, jn_39, jn_40, jn_41, jn_42, jn_43, jn_44, jn_50, js_0, js_1, js_2, js_3, js_4, js_5, js_6, js_7, js_8, js_9, js_10, js_11, js_12, js_13, js_14, js_15, js_16, js_20, js_21, js_22, js_23, js_24, js_25, js_26, js_27, js_28, js_29, js_30, js_31, js_32, js_33, js_34, js_35, js_36, js_37, js_38, js_39, js_40, js_41, js_42, js_43, js_44, js_50, bd_0, bd_1, bd_2, bd_3, let_e, nz_0, nz_1, nz_n0, nz_n1, ix_n, nl_0, nl_1, nl_2, nl_3, nl_4, nl_5, nl_6, nl_7, nl_8, nl_9, nl_10, nl_11, nl_12, nl_16, nl_40, nl_64, nl_200, nl_1000, nl_m, nl_m2, nar_0, nar_1, nI_cl, nI_E, nI_L, nI_T, nI_m, nI_m', nI_ng, nN_lt, nN_le, nI_add, pk_mul, nI_S, nI_R4, nI_R64, nI_32, st_eq, st_k, st_j, if_true, if_false, Nat.not_lt_zero, Nat.zero_le]
theorem q_eL {n sh T : Nat} {M : mm_M} {A : mm_A} (h : Rm n sh M A) (hP : Pr n sh T A) (hn : n ≤ 12) (hT : T ≤ 1000000) (C : mm_M) : ∀ (K d : Nat) (b : Bool), 24 - d < K → d ≤ 24 → f_Mo_quiet_l40 n K (jn C M) 0 (nI (if b then 1 else 0)) (nI d) = some (0, nI (if b && eL A (2 * n - d) d then 1 else 0), jn C M) := by
  have n24 : (24 : Int32) = nI 24 := rfl
  intro K
  induction K with
  | zero =>
    intro d b h2
    omega
  | succ K ih =>
    intro d b h2 h3
    rw [f_Mo_quiet_l40]
    by_cases e : 24 ≤ d
    · have e2 : 2 * n - d = 0 := by omega
      rw [e2]
      cases b
      · simp +decide (disch := omega) only [n24, e, eL, Bool.and_true, Bool.false_eq_true, jn_0, jn_1, jn_2, jn_3, jn_4, jn_5, jn_6, jn_7, jn_8, jn_9, jn_10, jn_11, jn_12, jn_13, jn_14, jn_15, jn_16, jn_20, jn_21, jn_22, jn_23, jn_24, jn_25, jn_26, jn_27, jn_28, jn_29, jn_30, jn_31, jn_32, jn_33, jn_34, jn_35, jn_36, jn_37, jn_38, jn_39, jn_40, jn_41, jn_42, jn_43, jn_44, jn_50, js_0, js_1, js_2, js_3, js_4, js_5, js_6, js_7, js_8, js_9, js_10, js_11, js_12, js_13, js_14, js_15, js_16, js_20, js_21, js_22, js_23, js_24, js_25, js_26, js_27, js_28, js_29, js_30, js_31, js_32, js_33, js_34, js_35, js_36, js_37, js_38, js_39, js_40, js_41, js_42, js_43, js_44, js_50, bd_0, bd_1, bd_2, bd_3, let_e, nz_0, nz_1, nz_n0, nz_n1, ix_n, nl_0, nl_1, nl_2, nl_3, nl_4, nl_5, nl_6, nl_7, nl_8, nl_9, nl_10, nl_11, nl_12, nl_16, nl_40, nl_64, nl_200, nl_1000, nl_m, nl_m2, nar_0, nar_1, nI_cl, nI_E, nI_L, nI_T, nI_m, nI_m', nI_ng, nN_lt, nN_le, nI_add, pk_mul, nI_S, nI_R4, nI_R64, nI_32, st_eq, st_k, st_j, if_true, if_false, Nat.not_lt_zero, Nat.zero_le]
      · simp +decide (disch := omega) only [n24, e, eL, Bool.and_true, jn_0, jn_1, jn_2, jn_3, jn_4, jn_5, jn_6, jn_7, jn_8, jn_9, jn_10, jn_11, jn_12, jn_13, jn_14, jn_15, jn_16, jn_20, jn_21, jn_22, jn_23, jn_24, jn_25, jn_26, jn_27, jn_28, jn_29, jn_30, jn_31, jn_32, jn_33, jn_34, jn_35, jn_36, jn_37, jn_38, jn_39, jn_40, jn_41, jn_42, jn_43, jn_44, jn_50, js_0, js_1, js_2, js_3, js_4, js_5, js_6, js_7, js_8, js_9, js_10, js_11, js_12, js_13, js_14, js_15, js_16, js_20, js_21, js_22, js_23, js_24, js_25, js_26, js_27, js_28, js_29, js_30, js_31, js_32, js_33, js_34, js_35, js_36, js_37, js_38, js_39, js_40, js_41, js_42, js_43, js_44, js_50, bd_0, bd_1, bd_2, bd_3, let_e, nz_0, nz_1, nz_n0, nz_n1, ix_n, nl_0, nl_1, nl_2, nl_3, nl_4, nl_5, nl_6, nl_7, nl_8, nl_9, nl_10, nl_11, nl_12, nl_16, nl_40, nl_64, nl_200, nl_1000, nl_m, nl_m2, nar_0, nar_1, nI_cl, nI_E, nI_L, nI_T, nI_m, nI_m', nI_ng, nN_lt, nN_le, nI_add, pk_mul, nI_S, nI_R4, nI_R64, nI_32, st_eq, st_k, st_j, if_true, if_false, Nat.not_lt_zero, Nat.zero_le]
    · cases b
      · have := ih (d + 1) false (by omega) (by omega)
        simp only [Bool.false_and, Bool.false_eq_true, if_false] at this
        simp +decide (disch := omega) only [n24, e, Bool.false_and, Bool.false_eq_true, jn_0, jn_1, jn_2, jn_3, jn_4, jn_5, jn_6, jn_7, jn_8, jn_9, jn_10, jn_11, jn_12, jn_13, jn_14, jn_15, jn_16, jn_20, jn_21, jn_22, jn_23, jn_24, jn_25, jn_26, jn_27, jn_28, jn_29, jn_30, jn_31, jn_32, jn_33, jn_34, jn_35, jn_36, jn_37, jn_38, jn_39, jn_40, jn_41, jn_42, jn_43, jn_44, jn_50, js_0, js_1, js_2, js_3, js_4, js_5, js_6, js_7, js_8, js_9, js_10, js_11, js_12, js_13, js_14, js_15, js_16, js_20, js_21, js_22, js_23, js_24, js_25, js_26, js_27, js_28, js_29, js_30, js_31, js_32, js_33, js_34, js_35, js_36, js_37, js_38, js_39, js_40, js_41, js_42, js_43, js_44, js_50, bd_0, bd_1, bd_2, bd_3, let_e, nz_0, nz_1, nz_n0, nz_n1, ix_n, nl_0, nl_1, nl_2, nl_3, nl_4, nl_5, nl_6, nl_7, nl_8, nl_9, nl_10, nl_11, nl_12, nl_16, nl_40, nl_64, nl_200, nl_1000, nl_m, nl_m2, nar_0, nar_1, nI_cl, nI_E, nI_L, nI_T, nI_m, nI_m', nI_ng, nN_lt, nN_le, nI_add, pk_mul, nI_S, nI_R4, nI_R64, nI_32, st_eq, st_k, st_j, if_true, if_false, Nat.not_lt_zero, Nat.zero_le]
        exact this
      · by_cases w2 : d < 2 * n
        · have z := hP.2.2.1 d w2
          have p := h.2.2.1.1 d w2
          rw [show 2 * n - d = (2 * n - (d + 1)) + 1 by omega]
          by_cases w : A 6 d 0 = A 6 d 1
          · have s1 : eL A (2 * n - (d + 1) + 1) d = eL A (2 * n - (d + 1)) (d + 1) := by simp [eL, w]
            have := ih (d + 1) true (by omega) (by omega)
            rw [s1]
            simp only [if_true] at this
            simp +decide (disch := omega) only [n24, e, p.1, p.2.1, w, jn_0, jn_1, jn_2, jn_3, jn_4, jn_5, jn_6, jn_7, jn_8, jn_9, jn_10, jn_11, jn_12, jn_13, jn_14, jn_15, jn_16, jn_20, jn_21, jn_22, jn_23, jn_24, jn_25, jn_26, jn_27, jn_28, jn_29, jn_30, jn_31, jn_32, jn_33, jn_34, jn_35, jn_36, jn_37, jn_38, jn_39, jn_40, jn_41, jn_42, jn_43, jn_44, jn_50, js_0, js_1, js_2, js_3, js_4, js_5, js_6, js_7, js_8, js_9, js_10, js_11, js_12, js_13, js_14, js_15, js_16, js_20, js_21, js_22, js_23, js_24, js_25, js_26, js_27, js_28, js_29, js_30, js_31, js_32, js_33, js_34, js_35, js_36, js_37, js_38, js_39, js_40, js_41, js_42, js_43, js_44, js_50, bd_0, bd_1, bd_2, bd_3, let_e, nz_0, nz_1, nz_n0, nz_n1, ix_n, nl_0, nl_1, nl_2, nl_3, nl_4, nl_5, nl_6, nl_7, nl_8, nl_9, nl_10, nl_11, nl_12, nl_16, nl_40, nl_64, nl_200, nl_1000, nl_m, nl_m2, nar_0, nar_1, nI_cl, nI_E, nI_L, nI_T, nI_m, nI_m', nI_ng, nN_lt, nN_le, nI_add, pk_mul, nI_S, nI_R4, nI_R64, nI_32, st_eq, st_k, st_j, if_true, if_false, Nat.not_lt_zero, Nat.zero_le]
            exact this
          · have s1 : eL A (2 * n - (d + 1) + 1) d = false := by simp [eL, w]
            have w' : ¬ A 6 d 1 = A 6 d 0 := fun q => w q.symm
            have := ih (d + 1) false (by omega) (by omega)
            simp only [Bool.false_and, Bool.false_eq_true, if_false] at this
            rw [s1]
            simp +decide (disch := omega) only [n24, e, p.1, p.2.1, w', Bool.and_false, Bool.false_eq_true, jn_0, jn_1, jn_2, jn_3, jn_4, jn_5, jn_6, jn_7, jn_8, jn_9, jn_10, jn_11, jn_12, jn_13, jn_14, jn_15, jn_16, jn_20, jn_21, jn_22, jn_23, jn_24, jn_25, jn_26, jn_27, jn_28, jn_29, jn_30, jn_31, jn_32, jn_33, jn_34, jn_35, jn_36, jn_37, jn_38, jn_39, jn_40, jn_41, jn_42, jn_43, jn_44, jn_50, js_0, js_1, js_2, js_3, js_4, js_5, js_6, js_7, js_8, js_9, js_10, js_11, js_12, js_13, js_14, js_15, js_16, js_20, js_21, js_22, js_23, js_24, js_25, js_26, js_27, js_28, js_29, js_30, js_31, js_32, js_33, js_34, js_35, js_36, js_37, js_38, js_39, js_40, js_41, js_42, js_43, js_44, js_50, bd_0, bd_1, bd_2, bd_3, let_e, nz_0, nz_1, nz_n0, nz_n1, ix_n, nl_0, nl_1, nl_2, nl_3, nl_4, nl_5, nl_6, nl_7, nl_8, nl_9, nl_10, nl_11, nl_12, nl_16, nl_40, nl_64, nl_200, nl_1000, nl_m, nl_m2, nar_0, nar_1, nI_cl, nI_E, nI_L, nI_T, nI_m, nI_m', nI_ng, nN_lt, nN_le, nI_add, pk_mul, nI_S, nI_R4, nI_R64, nI_32, st_eq, st_k, st_j, if_true, if_false, Nat.not_lt_zero, Nat.zero_le]
            exact this
        · have p := h.2.2.1.2 d (by omega) (by omega)
          have s1 : 2 * n - d = 2 * n - (d + 1) := by omega
          have s2 : eL A (2 * n - d) d = true := by
            rw [show 2 * n - d = 0 by omega]
            rfl
          have s3 : eL A (2 * n - (d + 1)) (d + 1) = true := by
            rw [show 2 * n - (d + 1) = 0 by omega]
            rfl
          have := ih (d + 1) true (by omega) (by omega)
          rw [s3] at this
          rw [s2]
          simp only [if_true] at this
          simp +decide (disch := omega) only [n24, e, p, jn_0, jn_1, jn_2, jn_3, jn_4, jn_5, jn_6, jn_7, jn_8, jn_9, jn_10, jn_11, jn_12, jn_13, jn_14, jn_15, jn_16, jn_20, jn_21, jn_22, jn_23, jn_24, jn_25, jn_26, jn_27, jn_28, jn_29, jn_30, jn_31, jn_32, jn_33, jn_34, jn_35, jn_36, jn_37, jn_38, jn_39, jn_40, jn_41, jn_42, jn_43, jn_44, jn_50, js_0, js_1, js_2, js_3, js_4, js_5, js_6, js_7, js_8, js_9, js_10, js_11, js_12, js_13, js_14, js_15, js_16, js_20, js_21, js_22, js_23, js_24, js_25, js_26, js_27, js_28, js_29, js_30, js_31, js_32, js_33, js_34, js_35, js_36, js_37, js_38, js_39, js_40, js_41, js_42, js_43, js_44, js_50, bd_0, bd_1, bd_2, bd_3, let_e, nz_0, nz_1, nz_n0, nz_n1, ix_n, nl_0, nl_1, nl_2, nl_3, nl_4, nl_5, nl_6, nl_7, nl_8, nl_9, nl_10, nl_11, nl_12, nl_16, nl_40, nl_64, nl_200, nl_1000, nl_m, nl_m2, nar_0, nar_1, nI_cl, nI_E, nI_L, nI_T, nI_m, nI_m', nI_ng, nN_lt, nN_le, nI_add, pk_mul, nI_S, nI_R4, nI_R64, nI_32, st_eq, st_k, st_j, if_true, if_false, Nat.not_lt_zero, Nat.zero_le]
          exact this
theorem ag_quiet {n sh T : Nat} {A : mm_A} {C : mm_M} (hn : n ≤ 12) (hT : T ≤ 1000000) (hR : Rp n sh C A) (hP : Pr n sh T A) : AG n sh T A C (fun g => f_LA_quiet n g 0) (fun g => f_Mo_quiet n g 0) [0] th1 := by
  have i0 := (hP.2.1 0 (by omega)).2.1
  have i1 := (hP.2.1 1 (by omega)).2.1
  have i2 := (hP.2.1 2 (by omega)).2.1
  have a0 := (hR.2.1 0 (by omega)).2.1
  have a1 := (hR.2.1 1 (by omega)).2.1
  have a2 := (hR.2.1 2 (by omega)).2.1
  have ke : ∀ M, f_Ma_isEmpty n (jn C M) 0 = some (0, nI (if eL A (2 * n) 0 then 1 else 0), jn C M) := fun M => by
    unfold f_Ma_isEmpty
    exact k_eL hR hP hn hT M 4096 (2 * n) 0 (by omega) (by omega)
  have qe : ∀ M, Rm n sh M A → ∀ b : Bool, f_Mo_quiet_b37 n (jn C (mm_st M 20 0 0 (nI 0))) 0 (nI (if b then 1 else 0)) = some (0, nI (if b && eL A (2 * n) 0 then 1 else 0), jn C (mm_st M 20 0 0 (nI 0))) := fun M hM b => by
    unfold f_Mo_quiet_b37
    exact q_eL (Rm_th (v := nI 0) hM) hP hn hT C 4096 0 b (by omega) (by omega)
  obtain ⟨F, hF⟩ : ∃ F, F + 4 = 4096 := ⟨4092, rfl⟩
  refine AG_same hR hP 0 (by simp) (v := nI (if (decide (A 5 0 1 = 0) && decide (A 5 1 1 = 0) && decide (A 5 2 1 = 0)) && eL A (2 * n) 0 then 1 else 0)) (v' := nI (if (decide (A 5 0 1 = 0) && decide (A 5 1 1 = 0) && decide (A 5 2 1 = 0)) && eL A (2 * n) 0 then 1 else 0)) (fun M => ?_) (fun M hM => ?_) (fun _ => rfl)
  · have ke := ke M
    show f_LA_quiet n (jn C M) 0 = _
    unfold f_LA_quiet
    rw [← hF]
    clear hF
    by_cases e0 : A 5 0 1 = 0
    · rw [e0] at a0
      by_cases e1 : A 5 1 1 = 0
      · rw [e1] at a1
        by_cases e2 : A 5 2 1 = 0
        · rw [e2] at a2
          rcases q : eL A (2 * n) 0
          · rw [q] at ke
            rw [f_LA_quiet_l2]
            simp +decide (disch := omega) only [a0, jn_0, jn_1, jn_2, jn_3, jn_4, jn_5, jn_6, jn_7, jn_8, jn_9, jn_10, jn_11, jn_12, jn_13, jn_14, jn_15, jn_16, jn_20, jn_21, jn_22, jn_23, jn_24, jn_25, jn_26, jn_27, jn_28, jn_29, jn_30, jn_31, jn_32, jn_33, jn_34, jn_35, jn_36, jn_37, jn_38, jn_39, jn_40, jn_41, jn_42, jn_43, jn_44, jn_50, js_0, js_1, js_2, js_3, js_4, js_5, js_6, js_7, js_8, js_9, js_10, js_11, js_12, js_13, js_14, js_15, js_16, js_20, js_21, js_22, js_23, js_24, js_25, js_26, js_27, js_28, js_29, js_30, js_31, js_32, js_33, js_34, js_35, js_36, js_37, js_38, js_39, js_40, js_41, js_42, js_43, js_44, js_50, bd_0, bd_1, bd_2, bd_3, let_e, nz_0, nz_1, nz_n0, nz_n1, ix_n, nl_0, nl_1, nl_2, nl_3, nl_4, nl_5, nl_6, nl_7, nl_8, nl_9, nl_10, nl_11, nl_12, nl_16, nl_40, nl_64, nl_200, nl_1000, nl_m, nl_m2, nar_0, nar_1, nI_cl, nI_E, nI_L, nI_T, nI_m, nI_m', nI_ng, nN_lt, nN_le, nI_add, pk_mul, nI_S, nI_R4, nI_R64, nI_32, st_eq, st_k, st_j, if_true, if_false, Nat.not_lt_zero, Nat.zero_le]
            rw [f_LA_quiet_l2]
            simp +decide (disch := omega) only [a1, jn_0, jn_1, jn_2, jn_3, jn_4, jn_5, jn_6, jn_7, jn_8, jn_9, jn_10, jn_11, jn_12, jn_13, jn_14, jn_15, jn_16, jn_20, jn_21, jn_22, jn_23, jn_24, jn_25, jn_26, jn_27, jn_28, jn_29, jn_30, jn_31, jn_32, jn_33, jn_34, jn_35, jn_36, jn_37, jn_38, jn_39, jn_40, jn_41, jn_42, jn_43, jn_44, jn_50, js_0, js_1, js_2, js_3, js_4, js_5, js_6, js_7, js_8, js_9, js_10, js_11, js_12, js_13, js_14, js_15, js_16, js_20, js_21, js_22, js_23, js_24, js_25, js_26, js_27, js_28, js_29, js_30, js_31, js_32, js_33, js_34, js_35, js_36, js_37, js_38, js_39, js_40, js_41, js_42, js_43, js_44, js_50, bd_0, bd_1, bd_2, bd_3, let_e, nz_0, nz_1, nz_n0, nz_n1, ix_n, nl_0, nl_1, nl_2, nl_3, nl_4, nl_5, nl_6, nl_7, nl_8, nl_9, nl_10, nl_11, nl_12, nl_16, nl_40, nl_64, nl_200, nl_1000, nl_m, nl_m2, nar_0, nar_1, nI_cl, nI_E, nI_L, nI_T, nI_m, nI_m', nI_ng, nN_lt, nN_le, nI_add, pk_mul, nI_S, nI_R4, nI_R64, nI_32, st_eq, st_k, st_j, if_true, if_false, Nat.not_lt_zero, Nat.zero_le]
            rw [f_LA_quiet_l2]
            simp +decide (disch := omega) only [a2, jn_0, jn_1, jn_2, jn_3, jn_4, jn_5, jn_6, jn_7, jn_8, jn_9, jn_10, jn_11, jn_12, jn_13, jn_14, jn_15, jn_16, jn_20, jn_21, jn_22, jn_23, jn_24, jn_25, jn_26, jn_27, jn_28, jn_29, jn_30, jn_31, jn_32, jn_33, jn_34, jn_35, jn_36, jn_37, jn_38, jn_39, jn_40, jn_41, jn_42, jn_43, jn_44, jn_50, js_0, js_1, js_2, js_3, js_4, js_5, js_6, js_7, js_8, js_9, js_10, js_11, js_12, js_13, js_14, js_15, js_16, js_20, js_21, js_22, js_23, js_24, js_25, js_26, js_27, js_28, js_29, js_30, js_31, js_32, js_33, js_34, js_35, js_36, js_37, js_38, js_39, js_40, js_41, js_42, js_43, js_44, js_50, bd_0, bd_1, bd_2, bd_3, let_e, nz_0, nz_1, nz_n0, nz_n1, ix_n, nl_0, nl_1, nl_2, nl_3, nl_4, nl_5, nl_6, nl_7, nl_8, nl_9, nl_10, nl_11, nl_12, nl_16, nl_40, nl_64, nl_200, nl_1000, nl_m, nl_m2, nar_0, nar_1, nI_cl, nI_E, nI_L, nI_T, nI_m, nI_m', nI_ng, nN_lt, nN_le, nI_add, pk_mul, nI_S, nI_R4, nI_R64, nI_32, st_eq, st_k, st_j, if_true, if_false, Nat.not_lt_zero, Nat.zero_le]
            rw [f_LA_quiet_l2]
            simp +decide (disch := omega) only [ke, e0, e1, e2, decide_true, Bool.true_and, Bool.false_eq_true, Nat.le_refl, jn_0, jn_1, jn_2, jn_3, jn_4, jn_5, jn_6, jn_7, jn_8, jn_9, jn_10, jn_11, jn_12, jn_13, jn_14, jn_15, jn_16, jn_20, jn_21, jn_22, jn_23, jn_24, jn_25, jn_26, jn_27, jn_28, jn_29, jn_30, jn_31, jn_32, jn_33, jn_34, jn_35, jn_36, jn_37, jn_38, jn_39, jn_40, jn_41, jn_42, jn_43, jn_44, jn_50, js_0, js_1, js_2, js_3, js_4, js_5, js_6, js_7, js_8, js_9, js_10, js_11, js_12, js_13, js_14, js_15, js_16, js_20, js_21, js_22, js_23, js_24, js_25, js_26, js_27, js_28, js_29, js_30, js_31, js_32, js_33, js_34, js_35, js_36, js_37, js_38, js_39, js_40, js_41, js_42, js_43, js_44, js_50, bd_0, bd_1, bd_2, bd_3, let_e, nz_0, nz_1, nz_n0, nz_n1, ix_n, nl_0, nl_1, nl_2, nl_3, nl_4, nl_5, nl_6, nl_7, nl_8, nl_9, nl_10, nl_11, nl_12, nl_16, nl_40, nl_64, nl_200, nl_1000, nl_m, nl_m2, nar_0, nar_1, nI_cl, nI_E, nI_L, nI_T, nI_m, nI_m', nI_ng, nN_lt, nN_le, nI_add, pk_mul, nI_S, nI_R4, nI_R64, nI_32, st_eq, st_k, st_j, if_true, if_false, Nat.not_lt_zero, Nat.zero_le]
          · rw [q] at ke
            rw [f_LA_quiet_l2]
            simp +decide (disch := omega) only [a0, jn_0, jn_1, jn_2, jn_3, jn_4, jn_5, jn_6, jn_7, jn_8, jn_9, jn_10, jn_11, jn_12, jn_13, jn_14, jn_15, jn_16, jn_20, jn_21, jn_22, jn_23, jn_24, jn_25, jn_26, jn_27, jn_28, jn_29, jn_30, jn_31, jn_32, jn_33, jn_34, jn_35, jn_36, jn_37, jn_38, jn_39, jn_40, jn_41, jn_42, jn_43, jn_44, jn_50, js_0, js_1, js_2, js_3, js_4, js_5, js_6, js_7, js_8, js_9, js_10, js_11, js_12, js_13, js_14, js_15, js_16, js_20, js_21, js_22, js_23, js_24, js_25, js_26, js_27, js_28, js_29, js_30, js_31, js_32, js_33, js_34, js_35, js_36, js_37, js_38, js_39, js_40, js_41, js_42, js_43, js_44, js_50, bd_0, bd_1, bd_2, bd_3, let_e, nz_0, nz_1, nz_n0, nz_n1, ix_n, nl_0, nl_1, nl_2, nl_3, nl_4, nl_5, nl_6, nl_7, nl_8, nl_9, nl_10, nl_11, nl_12, nl_16, nl_40, nl_64, nl_200, nl_1000, nl_m, nl_m2, nar_0, nar_1, nI_cl, nI_E, nI_L, nI_T, nI_m, nI_m', nI_ng, nN_lt, nN_le, nI_add, pk_mul, nI_S, nI_R4, nI_R64, nI_32, st_eq, st_k, st_j, if_true, if_false, Nat.not_lt_zero, Nat.zero_le]
            rw [f_LA_quiet_l2]
            simp +decide (disch := omega) only [a1, jn_0, jn_1, jn_2, jn_3, jn_4, jn_5, jn_6, jn_7, jn_8, jn_9, jn_10, jn_11, jn_12, jn_13, jn_14, jn_15, jn_16, jn_20, jn_21, jn_22, jn_23, jn_24, jn_25, jn_26, jn_27, jn_28, jn_29, jn_30, jn_31, jn_32, jn_33, jn_34, jn_35, jn_36, jn_37, jn_38, jn_39, jn_40, jn_41, jn_42, jn_43, jn_44, jn_50, js_0, js_1, js_2, js_3, js_4, js_5, js_6, js_7, js_8, js_9, js_10, js_11, js_12, js_13, js_14, js_15, js_16, js_20, js_21, js_22, js_23, js_24, js_25, js_26, js_27, js_28, js_29, js_30, js_31, js_32, js_33, js_34, js_35, js_36, js_37, js_38, js_39, js_40, js_41, js_42, js_43, js_44, js_50, bd_0, bd_1, bd_2, bd_3, let_e, nz_0, nz_1, nz_n0, nz_n1, ix_n, nl_0, nl_1, nl_2, nl_3, nl_4, nl_5, nl_6, nl_7, nl_8, nl_9, nl_10, nl_11, nl_12, nl_16, nl_40, nl_64, nl_200, nl_1000, nl_m, nl_m2, nar_0, nar_1, nI_cl, nI_E, nI_L, nI_T, nI_m, nI_m', nI_ng, nN_lt, nN_le, nI_add, pk_mul, nI_S, nI_R4, nI_R64, nI_32, st_eq, st_k, st_j, if_true, if_false, Nat.not_lt_zero, Nat.zero_le]
            rw [f_LA_quiet_l2]
            simp +decide (disch := omega) only [a2, jn_0, jn_1, jn_2, jn_3, jn_4, jn_5, jn_6, jn_7, jn_8, jn_9, jn_10, jn_11, jn_12, jn_13, jn_14, jn_15, jn_16, jn_20, jn_21, jn_22, jn_23, jn_24, jn_25, jn_26, jn_27, jn_28, jn_29, jn_30, jn_31, jn_32, jn_33, jn_34, jn_35, jn_36, jn_37, jn_38, jn_39, jn_40, jn_41, jn_42, jn_43, jn_44, jn_50, js_0, js_1, js_2, js_3, js_4, js_5, js_6, js_7, js_8, js_9, js_10, js_11, js_12, js_13, js_14, js_15, js_16, js_20, js_21, js_22, js_23, js_24, js_25, js_26, js_27, js_28, js_29, js_30, js_31, js_32, js_33, js_34, js_35, js_36, js_37, js_38, js_39, js_40, js_41, js_42, js_43, js_44, js_50, bd_0, bd_1, bd_2, bd_3, let_e, nz_0, nz_1, nz_n0, nz_n1, ix_n, nl_0, nl_1, nl_2, nl_3, nl_4, nl_5, nl_6, nl_7, nl_8, nl_9, nl_10, nl_11, nl_12, nl_16, nl_40, nl_64, nl_200, nl_1000, nl_m, nl_m2, nar_0, nar_1, nI_cl, nI_E, nI_L, nI_T, nI_m, nI_m', nI_ng, nN_lt, nN_le, nI_add, pk_mul, nI_S, nI_R4, nI_R64, nI_32, st_eq, st_k, st_j, if_true, if_false, Nat.not_lt_zero, Nat.zero_le]
            rw [f_LA_quiet_l2]
            simp +decide (disch := omega) only [ke, e0, e1, e2, decide_true, Bool.true_and, Nat.le_refl, jn_0, jn_1, jn_2, jn_3, jn_4, jn_5, jn_6, jn_7, jn_8, jn_9, jn_10, jn_11, jn_12, jn_13, jn_14, jn_15, jn_16, jn_20, jn_21, jn_22, jn_23, jn_24, jn_25, jn_26, jn_27, jn_28, jn_29, jn_30, jn_31, jn_32, jn_33, jn_34, jn_35, jn_36, jn_37, jn_38, jn_39, jn_40, jn_41, jn_42, jn_43, jn_44, jn_50, js_0, js_1, js_2, js_3, js_4, js_5, js_6, js_7, js_8, js_9, js_10, js_11, js_12, js_13, js_14, js_15, js_16, js_20, js_21, js_22, js_23, js_24, js_25, js_26, js_27, js_28, js_29, js_30, js_31, js_32, js_33, js_34, js_35, js_36, js_37, js_38, js_39, js_40, js_41, js_42, js_43, js_44, js_50, bd_0, bd_1, bd_2, bd_3, let_e, nz_0, nz_1, nz_n0, nz_n1, ix_n, nl_0, nl_1, nl_2, nl_3, nl_4, nl_5, nl_6, nl_7, nl_8, nl_9, nl_10, nl_11, nl_12, nl_16, nl_40, nl_64, nl_200, nl_1000, nl_m, nl_m2, nar_0, nar_1, nI_cl, nI_E, nI_L, nI_T, nI_m, nI_m', nI_ng, nN_lt, nN_le, nI_add, pk_mul, nI_S, nI_R4, nI_R64, nI_32, st_eq, st_k, st_j, if_true, if_false, Nat.not_lt_zero, Nat.zero_le]
        · have e2' : A 5 2 1 = 1 := by omega
          rw [e2'] at a2
          rw [f_LA_quiet_l2]
          simp +decide (disch := omega) only [a0, jn_0, jn_1, jn_2, jn_3, jn_4, jn_5, jn_6, jn_7, jn_8, jn_9, jn_10, jn_11, jn_12, jn_13, jn_14, jn_15, jn_16, jn_20, jn_21, jn_22, jn_23, jn_24, jn_25, jn_26, jn_27, jn_28, jn_29, jn_30, jn_31, jn_32, jn_33, jn_34, jn_35, jn_36, jn_37, jn_38, jn_39, jn_40, jn_41, jn_42, jn_43, jn_44, jn_50, js_0, js_1, js_2, js_3, js_4, js_5, js_6, js_7, js_8, js_9, js_10, js_11, js_12, js_13, js_14, js_15, js_16, js_20, js_21, js_22, js_23, js_24, js_25, js_26, js_27, js_28, js_29, js_30, js_31, js_32, js_33, js_34, js_35, js_36, js_37, js_38, js_39, js_40, js_41, js_42, js_43, js_44, js_50, bd_0, bd_1, bd_2, bd_3, let_e, nz_0, nz_1, nz_n0, nz_n1, ix_n, nl_0, nl_1, nl_2, nl_3, nl_4, nl_5, nl_6, nl_7, nl_8, nl_9, nl_10, nl_11, nl_12, nl_16, nl_40, nl_64, nl_200, nl_1000, nl_m, nl_m2, nar_0, nar_1, nI_cl, nI_E, nI_L, nI_T, nI_m, nI_m', nI_ng, nN_lt, nN_le, nI_add, pk_mul, nI_S, nI_R4, nI_R64, nI_32, st_eq, st_k, st_j, if_true, if_false, Nat.not_lt_zero, Nat.zero_le]
          rw [f_LA_quiet_l2]
          simp +decide (disch := omega) only [a1, jn_0, jn_1, jn_2, jn_3, jn_4, jn_5, jn_6, jn_7, jn_8, jn_9, jn_10, jn_11, jn_12, jn_13, jn_14, jn_15, jn_16, jn_20, jn_21, jn_22, jn_23, jn_24, jn_25, jn_26, jn_27, jn_28, jn_29, jn_30, jn_31, jn_32, jn_33, jn_34, jn_35, jn_36, jn_37, jn_38, jn_39, jn_40, jn_41, jn_42, jn_43, jn_44, jn_50, js_0, js_1, js_2, js_3, js_4, js_5, js_6, js_7, js_8, js_9, js_10, js_11, js_12, js_13, js_14, js_15, js_16, js_20, js_21, js_22, js_23, js_24, js_25, js_26, js_27, js_28, js_29, js_30, js_31, js_32, js_33, js_34, js_35, js_36, js_37, js_38, js_39, js_40, js_41, js_42, js_43, js_44, js_50, bd_0, bd_1, bd_2, bd_3, let_e, nz_0, nz_1, nz_n0, nz_n1, ix_n, nl_0, nl_1, nl_2, nl_3, nl_4, nl_5, nl_6, nl_7, nl_8, nl_9, nl_10, nl_11, nl_12, nl_16, nl_40, nl_64, nl_200, nl_1000, nl_m, nl_m2, nar_0, nar_1, nI_cl, nI_E, nI_L, nI_T, nI_m, nI_m', nI_ng, nN_lt, nN_le, nI_add, pk_mul, nI_S, nI_R4, nI_R64, nI_32, st_eq, st_k, st_j, if_true, if_false, Nat.not_lt_zero, Nat.zero_le]
          rw [f_LA_quiet_l2]
          simp +decide (disch := omega) only [a2, e2', decide_false, Bool.and_false, Bool.false_and, Bool.false_eq_true, jn_0, jn_1, jn_2, jn_3, jn_4, jn_5, jn_6, jn_7, jn_8, jn_9, jn_10, jn_11, jn_12, jn_13, jn_14, jn_15, jn_16, jn_20, jn_21, jn_22, jn_23, jn_24, jn_25, jn_26, jn_27, jn_28, jn_29, jn_30, jn_31, jn_32, jn_33, jn_34, jn_35, jn_36, jn_37, jn_38, jn_39, jn_40, jn_41, jn_42, jn_43, jn_44, jn_50, js_0, js_1, js_2, js_3, js_4, js_5, js_6, js_7, js_8, js_9, js_10, js_11, js_12, js_13, js_14, js_15, js_16, js_20, js_21, js_22, js_23, js_24, js_25, js_26, js_27, js_28, js_29, js_30, js_31, js_32, js_33, js_34, js_35, js_36, js_37, js_38, js_39, js_40, js_41, js_42, js_43, js_44, js_50, bd_0, bd_1, bd_2, bd_3, let_e, nz_0, nz_1, nz_n0, nz_n1, ix_n, nl_0, nl_1, nl_2, nl_3, nl_4, nl_5, nl_6, nl_7, nl_8, nl_9, nl_10, nl_11, nl_12, nl_16, nl_40, nl_64, nl_200, nl_1000, nl_m, nl_m2, nar_0, nar_1, nI_cl, nI_E, nI_L, nI_T, nI_m, nI_m', nI_ng, nN_lt, nN_le, nI_add, pk_mul, nI_S, nI_R4, nI_R64, nI_32, st_eq, st_k, st_j, if_true, if_false, Nat.not_lt_zero, Nat.zero_le]
      · have e1' : A 5 1 1 = 1 := by omega
        rw [e1'] at a1
        rw [f_LA_quiet_l2]
        simp +decide (disch := omega) only [a0, jn_0, jn_1, jn_2, jn_3, jn_4, jn_5, jn_6, jn_7, jn_8, jn_9, jn_10, jn_11, jn_12, jn_13, jn_14, jn_15, jn_16, jn_20, jn_21, jn_22, jn_23, jn_24, jn_25, jn_26, jn_27, jn_28, jn_29, jn_30, jn_31, jn_32, jn_33, jn_34, jn_35, jn_36, jn_37, jn_38, jn_39, jn_40, jn_41, jn_42, jn_43, jn_44, jn_50, js_0, js_1, js_2, js_3, js_4, js_5, js_6, js_7, js_8, js_9, js_10, js_11, js_12, js_13, js_14, js_15, js_16, js_20, js_21, js_22, js_23, js_24, js_25, js_26, js_27, js_28, js_29, js_30, js_31, js_32, js_33, js_34, js_35, js_36, js_37, js_38, js_39, js_40, js_41, js_42, js_43, js_44, js_50, bd_0, bd_1, bd_2, bd_3, let_e, nz_0, nz_1, nz_n0, nz_n1, ix_n, nl_0, nl_1, nl_2, nl_3, nl_4, nl_5, nl_6, nl_7, nl_8, nl_9, nl_10, nl_11, nl_12, nl_16, nl_40, nl_64, nl_200, nl_1000, nl_m, nl_m2, nar_0, nar_1, nI_cl, nI_E, nI_L, nI_T, nI_m, nI_m', nI_ng, nN_lt, nN_le, nI_add, pk_mul, nI_S, nI_R4, nI_R64, nI_32, st_eq, st_k, st_j, if_true, if_false, Nat.not_lt_zero, Nat.zero_le]
        rw [f_LA_quiet_l2]
        simp +decide (disch := omega) only [a1, e1', decide_false, Bool.and_false, Bool.false_and, Bool.false_eq_true, jn_0, jn_1, jn_2, jn_3, jn_4, jn_5, jn_6, jn_7, jn_8, jn_9, jn_10, jn_11, jn_12, jn_13, jn_14, jn_15, jn_16, jn_20, jn_21, jn_22, jn_23, jn_24, jn_25, jn_26, jn_27, jn_28, jn_29, jn_30, jn_31, jn_32, jn_33, jn_34, jn_35, jn_36, jn_37, jn_38, jn_39, jn_40, jn_41, jn_42, jn_43, jn_44, jn_50, js_0, js_1, js_2, js_3, js_4, js_5, js_6, js_7, js_8, js_9, js_10, js_11, js_12, js_13, js_14, js_15, js_16, js_20, js_21, js_22, js_23, js_24, js_25, js_26, js_27, js_28, js_29, js_30, js_31, js_32, js_33, js_34, js_35, js_36, js_37, js_38, js_39, js_40, js_41, js_42, js_43, js_44, js_50, bd_0, bd_1, bd_2, bd_3, let_e, nz_0, nz_1, nz_n0, nz_n1, ix_n, nl_0, nl_1, nl_2, nl_3, nl_4, nl_5, nl_6, nl_7, nl_8, nl_9, nl_10, nl_11, nl_12, nl_16, nl_40, nl_64, nl_200, nl_1000, nl_m, nl_m2, nar_0, nar_1, nI_cl, nI_E, nI_L, nI_T, nI_m, nI_m', nI_ng, nN_lt, nN_le, nI_add, pk_mul, nI_S, nI_R4, nI_R64, nI_32, st_eq, st_k, st_j, if_true, if_false, Nat.not_lt_zero, Nat.zero_le]
    · have e0' : A 5 0 1 = 1 := by omega
      rw [e0'] at a0
      rw [f_LA_quiet_l2]
      simp +decide (disch := omega) only [a0, e0', decide_false, Bool.false_and, Bool.false_eq_true, jn_0, jn_1, jn_2, jn_3, jn_4, jn_5, jn_6, jn_7, jn_8, jn_9, jn_10, jn_11, jn_12, jn_13, jn_14, jn_15, jn_16, jn_20, jn_21, jn_22, jn_23, jn_24, jn_25, jn_26, jn_27, jn_28, jn_29, jn_30, jn_31, jn_32, jn_33, jn_34, jn_35, jn_36, jn_37, jn_38, jn_39, jn_40, jn_41, jn_42, jn_43, jn_44, jn_50, js_0, js_1, js_2, js_3, js_4, js_5, js_6, js_7, js_8, js_9, js_10, js_11, js_12, js_13, js_14, js_15, js_16, js_20, js_21, js_22, js_23, js_24, js_25, js_26, js_27, js_28, js_29, js_30, js_31, js_32, js_33, js_34, js_35, js_36, js_37, js_38, js_39, js_40, js_41, js_42, js_43, js_44, js_50, bd_0, bd_1, bd_2, bd_3, let_e, nz_0, nz_1, nz_n0, nz_n1, ix_n, nl_0, nl_1, nl_2, nl_3, nl_4, nl_5, nl_6, nl_7, nl_8, nl_9, nl_10, nl_11, nl_12, nl_16, nl_40, nl_64, nl_200, nl_1000, nl_m, nl_m2, nar_0, nar_1, nI_cl, nI_E, nI_L, nI_T, nI_m, nI_m', nI_ng, nN_lt, nN_le, nI_add, pk_mul, nI_S, nI_R4, nI_R64, nI_32, st_eq, st_k, st_j, if_true, if_false, Nat.not_lt_zero, Nat.zero_le]
  · clear hF
    have qT := qe M hM true
    have qF := qe M hM false
    simp only [Bool.true_and, if_true, Bool.false_and, Bool.false_eq_true, if_false] at qT qF
    have b0 := (hM.2.1 0 (by omega)).2.1
    have b1 := (hM.2.1 1 (by omega)).2.1
    have b2 := (hM.2.1 2 (by omega)).2.1
    by_cases e0 : A 5 0 1 = 0
    · rw [e0] at b0
      by_cases e1 : A 5 1 1 = 0
      · rw [e1] at b1
        by_cases e2 : A 5 2 1 = 0
        · rw [e2] at b2
          simp +decide (disch := omega) only [f_Mo_quiet, f_Mo_quiet_b36, b0, b1, b2, qT, e0, e1, e2, decide_true, Bool.true_and, th1, jn_0, jn_1, jn_2, jn_3, jn_4, jn_5, jn_6, jn_7, jn_8, jn_9, jn_10, jn_11, jn_12, jn_13, jn_14, jn_15, jn_16, jn_20, jn_21, jn_22, jn_23, jn_24, jn_25, jn_26, jn_27, jn_28, jn_29, jn_30, jn_31, jn_32, jn_33, jn_34, jn_35, jn_36, jn_37, jn_38, jn_39, jn_40, jn_41, jn_42, jn_43, jn_44, jn_50, js_0, js_1, js_2, js_3, js_4, js_5, js_6, js_7, js_8, js_9, js_10, js_11, js_12, js_13, js_14, js_15, js_16, js_20, js_21, js_22, js_23, js_24, js_25, js_26, js_27, js_28, js_29, js_30, js_31, js_32, js_33, js_34, js_35, js_36, js_37, js_38, js_39, js_40, js_41, js_42, js_43, js_44, js_50, bd_0, bd_1, bd_2, bd_3, let_e, nz_0, nz_1, nz_n0, nz_n1, ix_n, nl_0, nl_1, nl_2, nl_3, nl_4, nl_5, nl_6, nl_7, nl_8, nl_9, nl_10, nl_11, nl_12, nl_16, nl_40, nl_64, nl_200, nl_1000, nl_m, nl_m2, nar_0, nar_1, nI_cl, nI_E, nI_L, nI_T, nI_m, nI_m', nI_ng, nN_lt, nN_le, nI_add, pk_mul, nI_S, nI_R4, nI_R64, nI_32, st_eq, st_k, st_j, if_true, if_false, Nat.not_lt_zero, Nat.zero_le]
        · have e2' : A 5 2 1 = 1 := by omega
          rw [e2'] at b2
          simp +decide (disch := omega) only [f_Mo_quiet, f_Mo_quiet_b36, b0, b1, b2, qF, e2', decide_false, Bool.and_false, Bool.false_and, Bool.false_eq_true, th1, jn_0, jn_1, jn_2, jn_3, jn_4, jn_5, jn_6, jn_7, jn_8, jn_9, jn_10, jn_11, jn_12, jn_13, jn_14, jn_15, jn_16, jn_20, jn_21, jn_22, jn_23, jn_24, jn_25, jn_26, jn_27, jn_28, jn_29, jn_30, jn_31, jn_32, jn_33, jn_34, jn_35, jn_36, jn_37, jn_38, jn_39, jn_40, jn_41, jn_42, jn_43, jn_44, jn_50, js_0, js_1, js_2, js_3, js_4, js_5, js_6, js_7, js_8, js_9, js_10, js_11, js_12, js_13, js_14, js_15, js_16, js_20, js_21, js_22, js_23, js_24, js_25, js_26, js_27, js_28, js_29, js_30, js_31, js_32, js_33, js_34, js_35, js_36, js_37, js_38, js_39, js_40, js_41, js_42, js_43, js_44, js_50, bd_0, bd_1, bd_2, bd_3, let_e, nz_0, nz_1, nz_n0, nz_n1, ix_n, nl_0, nl_1, nl_2, nl_3, nl_4, nl_5, nl_6, nl_7, nl_8, nl_9, nl_10, nl_11, nl_12, nl_16, nl_40, nl_64, nl_200, nl_1000, nl_m, nl_m2, nar_0, nar_1, nI_cl, nI_E, nI_L, nI_T, nI_m, nI_m', nI_ng, nN_lt, nN_le, nI_add, pk_mul, nI_S, nI_R4, nI_R64, nI_32, st_eq, st_k, st_j, if_true, if_false, Nat.not_lt_zero, Nat.zero_le]
      · have e1' : A 5 1 1 = 1 := by omega
        rw [e1'] at b1
        simp +decide (disch := omega) only [f_Mo_quiet, f_Mo_quiet_b36, b0, b1, qF, e1', decide_false, Bool.and_false, Bool.false_and, Bool.false_eq_true, th1, jn_0, jn_1, jn_2, jn_3, jn_4, jn_5, jn_6, jn_7, jn_8, jn_9, jn_10, jn_11, jn_12, jn_13, jn_14, jn_15, jn_16, jn_20, jn_21, jn_22, jn_23, jn_24, jn_25, jn_26, jn_27, jn_28, jn_29, jn_30, jn_31, jn_32, jn_33, jn_34, jn_35, jn_36, jn_37, jn_38, jn_39, jn_40, jn_41, jn_42, jn_43, jn_44, jn_50, js_0, js_1, js_2, js_3, js_4, js_5, js_6, js_7, js_8, js_9, js_10, js_11, js_12, js_13, js_14, js_15, js_16, js_20, js_21, js_22, js_23, js_24, js_25, js_26, js_27, js_28, js_29, js_30, js_31, js_32, js_33, js_34, js_35, js_36, js_37, js_38, js_39, js_40, js_41, js_42, js_43, js_44, js_50, bd_0, bd_1, bd_2, bd_3, let_e, nz_0, nz_1, nz_n0, nz_n1, ix_n, nl_0, nl_1, nl_2, nl_3, nl_4, nl_5, nl_6, nl_7, nl_8, nl_9, nl_10, nl_11, nl_12, nl_16, nl_40, nl_64, nl_200, nl_1000, nl_m, nl_m2, nar_0, nar_1, nI_cl, nI_E, nI_L, nI_T, nI_m, nI_m', nI_ng, nN_lt, nN_le, nI_add, pk_mul, nI_S, nI_R4, nI_R64, nI_32, st_eq, st_k, st_j, if_true, if_false, Nat.not_lt_zero, Nat.zero_le]
    · have e0' : A 5 0 1 = 1 := by omega
      rw [e0'] at b0
      simp +decide (disch := omega) only [f_Mo_quiet, f_Mo_quiet_b36, b0, qF, e0', decide_false, Bool.false_and, Bool.false_eq_true, th1, jn_0, jn_1, jn_2, jn_3, jn_4, jn_5, jn_6, jn_7, jn_8, jn_9, jn_10, jn_11, jn_12, jn_13, jn_14, jn_15, jn_16, jn_20, jn_21, jn_22, jn_23, jn_24, jn_25, jn_26, jn_27, jn_28, jn_29, jn_30, jn_31, jn_32, jn_33, jn_34, jn_35, jn_36, jn_37, jn_38, jn_39, jn_40, jn_41, jn_42, jn_43, jn_44, jn_50, js_0, js_1, js_2, js_3, js_4, js_5, js_6, js_7, js_8, js_9, js_10, js_11, js_12, js_13, js_14, js_15, js_16, js_20, js_21, js_22, js_23, js_24, js_25, js_26, js_27, js_28, js_29, js_30, js_31, js_32, js_33, js_34, js_35, js_36, js_37, js_38, js_39, js_40, js_41, js_42, js_43, js_44, js_50, bd_0, bd_1, bd_2, bd_3, let_e, nz_0, nz_1, nz_n0, nz_n1, ix_n, nl_0, nl_1, nl_2, nl_3, nl_4, nl_5, nl_6, nl_7, nl_8, nl_9, nl_10, nl_11, nl_12, nl_16, nl_40, nl_64, nl_200, nl_1000, nl_m, nl_m2, nar_0, nar_1, nI_cl, nI_E, nI_L, nI_T, nI_m, nI_m', nI_ng, nN_lt, nN_le, nI_add, pk_mul, nI_S, nI_R4, nI_R64, nI_32, st_eq, st_k, st_j, if_true, if_false, Nat.not_lt_zero, Nat.zero_le]

/-! placing a copy -/
theorem pr3_p {sh b : Nat} (hb : 1 ≤ b) : pr3 sh b = nI (pa3 sh b) := if_neg (by omega)
theorem k_sw0 {n sh : Nat} {C : mm_M} {A : mm_A} (h : Rp n sh C A) (hn : n ≤ 12) {fr : Nat} (hf : fr < n) (M : mm_M) : ∀ (k f b lev : Nat), b < k → b < f → b + lev < n → (fr = 0 → 1 ≤ b) → f_Tr_stepTowards_l12 n k (jn C M) 0 (nI fr) (nI b) (nI lev) = some (0, nI (sw0 sh fr f b), jn C M) := by
  intro k
  induction k with
  | zero =>
    intro f b lev h1
    omega
  | succ k ih =>
    intro f b lev h1 h2 h3 h4
    have hlev : ¬ n ≤ lev := by omega
    rw [f_Tr_stepTowards_l12]
    cases f with
    | zero => omega
    | succ f =>
      by_cases e : b ≤ fr
      · have hfr : 1 ≤ fr := by omega
        have p := h.2.2.2.2.2.2.2 fr hf
        rw [pr3_p hfr] at p
        have s : sw0 sh fr (f + 1) b = pa3 sh fr := if_pos e
        rw [s]
        simp +decide (disch := omega) only [f_Tr_stepTowards_b52, hlev, e, p, jn_0, jn_1, jn_2, jn_3, jn_4, jn_5, jn_6, jn_7, jn_8, jn_9, jn_10, jn_11, jn_12, jn_13, jn_14, jn_15, jn_16, jn_20, jn_21, jn_22, jn_23, jn_24, jn_25, jn_26, jn_27, jn_28, jn_29, jn_30, jn_31, jn_32, jn_33, jn_34, jn_35, jn_36, jn_37, jn_38, jn_39, jn_40, jn_41, jn_42, jn_43, jn_44, jn_50, js_0, js_1, js_2, js_3, js_4, js_5, js_6, js_7, js_8, js_9, js_10, js_11, js_12, js_13, js_14, js_15, js_16, js_20, js_21, js_22, js_23, js_24, js_25, js_26, js_27, js_28, js_29, js_30, js_31, js_32, js_33, js_34, js_35, js_36, js_37, js_38, js_39, js_40, js_41, js_42, js_43, js_44, js_50, bd_0, bd_1, bd_2, bd_3, let_e, nz_0, nz_1, nz_n0, nz_n1, ix_n, nl_0, nl_1, nl_2, nl_3, nl_4, nl_5, nl_6, nl_7, nl_8, nl_9, nl_10, nl_11, nl_12, nl_16, nl_40, nl_64, nl_200, nl_1000, nl_m, nl_m2, nar_0, nar_1, nI_cl, nI_E, nI_L, nI_T, nI_m, nI_m', nI_ng, nN_lt, nN_le, nI_add, pk_mul, nI_S, nI_R4, nI_R64, nI_32, st_eq, st_k, st_j, if_true, if_false, Nat.not_lt_zero, Nat.zero_le]
      · have hb1 : 1 ≤ b := by omega
        have p := h.2.2.2.2.2.2.2 b (by omega)
        rw [pr3_p hb1] at p
        have hlt := pa3_lt sh b hb1
        by_cases e2 : pa3 sh b = fr
        · have s : sw0 sh fr (f + 1) b = b := by
            show (if b ≤ fr then _ else if pa3 sh b = fr then b else _) = b
            rw [if_neg e, if_pos e2]
          rw [s]
          simp +decide (disch := omega) only [f_Tr_stepTowards_b52, hlev, e, p, e2, jn_0, jn_1, jn_2, jn_3, jn_4, jn_5, jn_6, jn_7, jn_8, jn_9, jn_10, jn_11, jn_12, jn_13, jn_14, jn_15, jn_16, jn_20, jn_21, jn_22, jn_23, jn_24, jn_25, jn_26, jn_27, jn_28, jn_29, jn_30, jn_31, jn_32, jn_33, jn_34, jn_35, jn_36, jn_37, jn_38, jn_39, jn_40, jn_41, jn_42, jn_43, jn_44, jn_50, js_0, js_1, js_2, js_3, js_4, js_5, js_6, js_7, js_8, js_9, js_10, js_11, js_12, js_13, js_14, js_15, js_16, js_20, js_21, js_22, js_23, js_24, js_25, js_26, js_27, js_28, js_29, js_30, js_31, js_32, js_33, js_34, js_35, js_36, js_37, js_38, js_39, js_40, js_41, js_42, js_43, js_44, js_50, bd_0, bd_1, bd_2, bd_3, let_e, nz_0, nz_1, nz_n0, nz_n1, ix_n, nl_0, nl_1, nl_2, nl_3, nl_4, nl_5, nl_6, nl_7, nl_8, nl_9, nl_10, nl_11, nl_12, nl_16, nl_40, nl_64, nl_200, nl_1000, nl_m, nl_m2, nar_0, nar_1, nI_cl, nI_E, nI_L, nI_T, nI_m, nI_m', nI_ng, nN_lt, nN_le, nI_add, pk_mul, nI_S, nI_R4, nI_R64, nI_32, st_eq, st_k, st_j, if_true, if_false, Nat.not_lt_zero, Nat.zero_le]
        · have s : sw0 sh fr (f + 1) b = sw0 sh fr f (pa3 sh b) := by
            show (if b ≤ fr then _ else if pa3 sh b = fr then b else _) = _
            rw [if_neg e, if_neg e2]
          rw [s]
          simp +decide (disch := omega) only [f_Tr_stepTowards_b52, hlev, e, p, e2, jn_0, jn_1, jn_2, jn_3, jn_4, jn_5, jn_6, jn_7, jn_8, jn_9, jn_10, jn_11, jn_12, jn_13, jn_14, jn_15, jn_16, jn_20, jn_21, jn_22, jn_23, jn_24, jn_25, jn_26, jn_27, jn_28, jn_29, jn_30, jn_31, jn_32, jn_33, jn_34, jn_35, jn_36, jn_37, jn_38, jn_39, jn_40, jn_41, jn_42, jn_43, jn_44, jn_50, js_0, js_1, js_2, js_3, js_4, js_5, js_6, js_7, js_8, js_9, js_10, js_11, js_12, js_13, js_14, js_15, js_16, js_20, js_21, js_22, js_23, js_24, js_25, js_26, js_27, js_28, js_29, js_30, js_31, js_32, js_33, js_34, js_35, js_36, js_37, js_38, js_39, js_40, js_41, js_42, js_43, js_44, js_50, bd_0, bd_1, bd_2, bd_3, let_e, nz_0, nz_1, nz_n0, nz_n1, ix_n, nl_0, nl_1, nl_2, nl_3, nl_4, nl_5, nl_6, nl_7, nl_8, nl_9, nl_10, nl_11, nl_12, nl_16, nl_40, nl_64, nl_200, nl_1000, nl_m, nl_m2, nar_0, nar_1, nI_cl, nI_E, nI_L, nI_T, nI_m, nI_m', nI_ng, nN_lt, nN_le, nI_add, pk_mul, nI_S, nI_R4, nI_R64, nI_32, st_eq, st_k, st_j, if_true, if_false, Nat.not_lt_zero, Nat.zero_le]
          exact ih f (pa3 sh b) (lev + 1) (by omega) (by omega) (by omega) (fun w => by omega)
theorem k_sw {n sh : Nat} {C : mm_M} {A : mm_A} (h : Rp n sh C A) (hn : n ≤ 12) {fr to : Nat} (hf : fr < n) (ht : to < n) (M : mm_M) : f_Tr_stepTowards n (jn C M) 0 (nI fr) (nI to) = some (0, nI (sw sh fr to), jn C M) := by
  unfold sw
  by_cases e : fr = to
  · rw [if_pos e]
    simp +decide (disch := omega) only [f_Tr_stepTowards, e, jn_0, jn_1, jn_2, jn_3, jn_4, jn_5, jn_6, jn_7, jn_8, jn_9, jn_10, jn_11, jn_12, jn_13, jn_14, jn_15, jn_16, jn_20, jn_21, jn_22, jn_23, jn_24, jn_25, jn_26, jn_27, jn_28, jn_29, jn_30, jn_31, jn_32, jn_33, jn_34, jn_35, jn_36, jn_37, jn_38, jn_39, jn_40, jn_41, jn_42, jn_43, jn_44, jn_50, js_0, js_1, js_2, js_3, js_4, js_5, js_6, js_7, js_8, js_9, js_10, js_11, js_12, js_13, js_14, js_15, js_16, js_20, js_21, js_22, js_23, js_24, js_25, js_26, js_27, js_28, js_29, js_30, js_31, js_32, js_33, js_34, js_35, js_36, js_37, js_38, js_39, js_40, js_41, js_42, js_43, js_44, js_50, bd_0, bd_1, bd_2, bd_3, let_e, nz_0, nz_1, nz_n0, nz_n1, ix_n, nl_0, nl_1, nl_2, nl_3, nl_4, nl_5, nl_6, nl_7, nl_8, nl_9, nl_10, nl_11, nl_12, nl_16, nl_40, nl_64, nl_200, nl_1000, nl_m, nl_m2, nar_0, nar_1, nI_cl, nI_E, nI_L, nI_T, nI_m, nI_m', nI_ng, nN_lt, nN_le, nI_add, pk_mul, nI_S, nI_R4, nI_R64, nI_32, st_eq, st_k, st_j, if_true, if_false, Nat.not_lt_zero, Nat.zero_le]
  · rw [if_neg e]
    have := k_sw0 h hn hf M 4096 12 to 0 (by omega) (by omega) (by omega) (fun w => by omega)
    simp +decide (disch := omega) only [f_Tr_stepTowards, e, jn_0, jn_1, jn_2, jn_3, jn_4, jn_5, jn_6, jn_7, jn_8, jn_9, jn_10, jn_11, jn_12, jn_13, jn_14, jn_15, jn_16, jn_20, jn_21, jn_22, jn_23, jn_24, jn_25, jn_26, jn_27, jn_28, jn_29, jn_30, jn_31, jn_32, jn_33, jn_34, jn_35, jn_36, jn_37, jn_38, jn_39, jn_40, jn_41, jn_42, jn_43, jn_44, jn_50, js_0, js_1, js_2, js_3, js_4, js_5, js_6, js_7, js_8, js_9, js_10, js_11, js_12, js_13, js_14, js_15, js_16, js_20, js_21, js_22, js_23, js_24, js_25, js_26, js_27, js_28, js_29, js_30, js_31, js_32, js_33, js_34, js_35, js_36, js_37, js_38, js_39, js_40, js_41, js_42, js_43, js_44, js_50, bd_0, bd_1, bd_2, bd_3, let_e, nz_0, nz_1, nz_n0, nz_n1, ix_n, nl_0, nl_1, nl_2, nl_3, nl_4, nl_5, nl_6, nl_7, nl_8, nl_9, nl_10, nl_11, nl_12, nl_16, nl_40, nl_64, nl_200, nl_1000, nl_m, nl_m2, nar_0, nar_1, nI_cl, nI_E, nI_L, nI_T, nI_m, nI_m', nI_ng, nN_lt, nN_le, nI_add, pk_mul, nI_S, nI_R4, nI_R64, nI_32, st_eq, st_k, st_j, if_true, if_false, Nat.not_lt_zero, Nat.zero_le]
    exact this
def sPl (sh : Nat) (A : mm_A) (c t j : Nat) : mm_A := fun f i q => if f = 2 ∧ i = c ∧ q < j then sw sh q t else A f i q
theorem sPl_s (sh : Nat) (A : mm_A) (c t j : Nat) : as (sPl sh A c t j) 2 c j (sw sh j t) = sPl sh A c t (j + 1) := by
  funext f i q
  rw [as_ap]
  unfold sPl
  by_cases e : f = 2 ∧ i = c ∧ q = j
  · rw [if_pos e, if_pos (by omega), e.2.2]
  · rw [if_neg e]
    by_cases e2 : f = 2 ∧ i = c ∧ q < j
    · rw [if_pos e2, if_pos (by omega)]
    · rw [if_neg e2, if_neg (by omega)]
theorem sPl_e (n sh : Nat) (A : mm_A) (c t : Nat) : as (as (sPl sh A c t n) 4 c t 4) 5 c 0 t = sPlace n sh A c t := by
  funext f i q
  simp only [as_ap]
  unfold sPl sPlace
  by_cases e5 : f = 5 ∧ i = c ∧ q = 0
  · rw [if_pos e5, if_neg (by omega), if_neg (by omega), if_pos e5]
  · rw [if_neg e5]
    by_cases e4 : f = 4 ∧ i = c ∧ q = t
    · rw [if_pos e4, if_neg (by omega), if_pos e4]
    · rw [if_neg e4, if_neg e4, if_neg e5]
theorem sw_99 {sh n j t : Nat} (hs : sh < 3) (hn : n ≤ 12) (hj : j < n) (ht : t < n) : sw sh j t < n := by
  by_cases e : j = t
  · simp [sw, e, ht]
  · have a := sw_b sh hs t (by omega) j (by omega)
    simp [e] at a
    omega
theorem k_settle {n sh : Nat} {A : mm_A} (hs : sh < 3) (hn : n ≤ 12) {c t : Nat} (hc : c < 3) (ht : t < n) : ∀ (k m j : Nat) (C : mm_M), j + m = n → m < k → Rp n sh C (sPl sh A c t j) → CR n sh C (fun g => f_Co_settle_l2 n k g c (nI t) 0 (nI j)) 0 (nI 0) (sPlace n sh A c t) := by
  intro k
  induction k with
  | zero =>
    intro m j C _ h2
    omega
  | succ k ih =>
    intro m j C h1 h2 h3
    cases m with
    | zero =>
      have ej : j = n := by omega
      subst ej
      have p := Rp_wh (Rp_st h3 hn hc ht (v := nI 4) (x := 4) rfl) hc (v := nI t) (x := t) (zf_n (by omega)).symm
      rw [sPl_e] at p
      refine ⟨_, fun M => ?_, p⟩
      show f_Co_settle_l2 j (k + 1) (jn C M) c (nI t) 0 (nI j) = _
      rw [f_Co_settle_l2]
      simp +decide (disch := omega) only [Nat.le_refl, jn_0, jn_1, jn_2, jn_3, jn_4, jn_5, jn_6, jn_7, jn_8, jn_9, jn_10, jn_11, jn_12, jn_13, jn_14, jn_15, jn_16, jn_20, jn_21, jn_22, jn_23, jn_24, jn_25, jn_26, jn_27, jn_28, jn_29, jn_30, jn_31, jn_32, jn_33, jn_34, jn_35, jn_36, jn_37, jn_38, jn_39, jn_40, jn_41, jn_42, jn_43, jn_44, jn_50, js_0, js_1, js_2, js_3, js_4, js_5, js_6, js_7, js_8, js_9, js_10, js_11, js_12, js_13, js_14, js_15, js_16, js_20, js_21, js_22, js_23, js_24, js_25, js_26, js_27, js_28, js_29, js_30, js_31, js_32, js_33, js_34, js_35, js_36, js_37, js_38, js_39, js_40, js_41, js_42, js_43, js_44, js_50, bd_0, bd_1, bd_2, bd_3, let_e, nz_0, nz_1, nz_n0, nz_n1, ix_n, nl_0, nl_1, nl_2, nl_3, nl_4, nl_5, nl_6, nl_7, nl_8, nl_9, nl_10, nl_11, nl_12, nl_16, nl_40, nl_64, nl_200, nl_1000, nl_m, nl_m2, nar_0, nar_1, nI_cl, nI_E, nI_L, nI_T, nI_m, nI_m', nI_ng, nN_lt, nN_le, nI_add, pk_mul, nI_S, nI_R4, nI_R64, nI_32, st_eq, st_k, st_j, if_true, if_false, Nat.not_lt_zero, Nat.zero_le]
    | succ m =>
      have hj : j < n := by omega
      have e : ¬ n ≤ j := by omega
      have hw := k_sw h3 hn hj ht
      have hlt := sw_99 hs hn hj ht
      have p := Rp_ar h3 hn hc hj (v := nI (sw sh j t)) (x := sw sh j t) (zf_n (by omega)).symm
      rw [sPl_s] at p
      obtain ⟨C1, i1, i2⟩ := ih m (j + 1) _ (by omega) (by omega) p
      refine ⟨C1, fun M => ?_, i2⟩
      have i1 := i1 M
      show f_Co_settle_l2 n (k + 1) (jn C M) c (nI t) 0 (nI j) = _
      rw [f_Co_settle_l2]
      simp +decide (disch := omega) only [e, hw, jn_0, jn_1, jn_2, jn_3, jn_4, jn_5, jn_6, jn_7, jn_8, jn_9, jn_10, jn_11, jn_12, jn_13, jn_14, jn_15, jn_16, jn_20, jn_21, jn_22, jn_23, jn_24, jn_25, jn_26, jn_27, jn_28, jn_29, jn_30, jn_31, jn_32, jn_33, jn_34, jn_35, jn_36, jn_37, jn_38, jn_39, jn_40, jn_41, jn_42, jn_43, jn_44, jn_50, js_0, js_1, js_2, js_3, js_4, js_5, js_6, js_7, js_8, js_9, js_10, js_11, js_12, js_13, js_14, js_15, js_16, js_20, js_21, js_22, js_23, js_24, js_25, js_26, js_27, js_28, js_29, js_30, js_31, js_32, js_33, js_34, js_35, js_36, js_37, js_38, js_39, js_40, js_41, js_42, js_43, js_44, js_50, bd_0, bd_1, bd_2, bd_3, let_e, nz_0, nz_1, nz_n0, nz_n1, ix_n, nl_0, nl_1, nl_2, nl_3, nl_4, nl_5, nl_6, nl_7, nl_8, nl_9, nl_10, nl_11, nl_12, nl_16, nl_40, nl_64, nl_200, nl_1000, nl_m, nl_m2, nar_0, nar_1, nI_cl, nI_E, nI_L, nI_T, nI_m, nI_m', nI_ng, nN_lt, nN_le, nI_add, pk_mul, nI_S, nI_R4, nI_R64, nI_32, st_eq, st_k, st_j, if_true, if_false, Nat.not_lt_zero, Nat.zero_le]
      exact i1
/-! the reference's way to the same step -/
def tw (sh l : Nat) : Nat → Nat → Nat
  | 0, b => b
  | f + 1, b => if pa3 sh b = l then b else tw sh l f (pa3 sh b)
theorem tw_b : ∀ sh, sh < 3 → ∀ t, t < 12 → ∀ l, l < 12 → (l == t || (if an sh l 12 t then sw sh l t == tw sh l 12 t else (sw sh l t == pa3 sh l && l != 0))) = true := by decide +kernel
theorem an_s {sh l f b : Nat} (e : ¬ b = l) (e0 : ¬ b = 0) : an sh l (f + 1) b = an sh l f (pa3 sh b) := by
  have e1 : (b == l) = false := by simp [e]
  have e2 : (b != 0) = true := by simp [e0]
  show (b == l || (b != 0 && an sh l f (pa3 sh b))) = _
  rw [e1, e2, Bool.false_or, Bool.true_and]
theorem q_above {n sh : Nat} {M : mm_M} {A : mm_A} (h : Rm n sh M A) {l : Nat} (hl : l < 12) (C : mm_M) : ∀ (k f b : Nat), b + 1 < k → b < f → b < 12 → f_Mo_isAbove_l2 n k (jn C M) 0 (nI l) (nI b) = some (0, nI (if an sh l f b then 1 else 0), jn C M) := by
  intro k
  induction k with
  | zero =>
    intro f b h1
    omega
  | succ k ih =>
    intro f b h1 h2 h3
    rw [f_Mo_isAbove_l2]
    cases f with
    | zero => omega
    | succ f =>
      by_cases e : b = l
      · have s : an sh l (f + 1) b = true := by simp [an, e]
        rw [s]
        simp +decide (disch := omega) only [f_Mo_isAbove_b21, f_Mo_isAbove_b31, e, jn_0, jn_1, jn_2, jn_3, jn_4, jn_5, jn_6, jn_7, jn_8, jn_9, jn_10, jn_11, jn_12, jn_13, jn_14, jn_15, jn_16, jn_20, jn_21, jn_22, jn_23, jn_24, jn_25, jn_26, jn_27, jn_28, jn_29, jn_30, jn_31, jn_32, jn_33, jn_34, jn_35, jn_36, jn_37, jn_38, jn_39, jn_40, jn_41, jn_42, jn_43, jn_44, jn_50, js_0, js_1, js_2, js_3, js_4, js_5, js_6, js_7, js_8, js_9, js_10, js_11, js_12, js_13, js_14, js_15, js_16, js_20, js_21, js_22, js_23, js_24, js_25, js_26, js_27, js_28, js_29, js_30, js_31, js_32, js_33, js_34, js_35, js_36, js_37, js_38, js_39, js_40, js_41, js_42, js_43, js_44, js_50, bd_0, bd_1, bd_2, bd_3, let_e, nz_0, nz_1, nz_n0, nz_n1, ix_n, nl_0, nl_1, nl_2, nl_3, nl_4, nl_5, nl_6, nl_7, nl_8, nl_9, nl_10, nl_11, nl_12, nl_16, nl_40, nl_64, nl_200, nl_1000, nl_m, nl_m2, nar_0, nar_1, nI_cl, nI_E, nI_L, nI_T, nI_m, nI_m', nI_ng, nN_lt, nN_le, nI_add, pk_mul, nI_S, nI_R4, nI_R64, nI_32, st_eq, st_k, st_j, if_true, if_false, Nat.not_lt_zero, Nat.zero_le]
      · have p := h.2.2.2.2.2.2 b h3
        by_cases e0 : b = 0
        · have s : an sh l (f + 1) b = false := by
            subst e0
            simp [an, e]
          rw [s]
          have p0 : M 21 0 0 = nN := by
            have := h.2.2.2.2.2.2 0 (by omega)
            exact this
          subst e0
          cases k with
          | zero => omega
          | succ k =>
            simp +decide (disch := omega) only [e, p0, jn_0, jn_1, jn_2, jn_3, jn_4, jn_5, jn_6, jn_7, jn_8, jn_9, jn_10, jn_11, jn_12, jn_13, jn_14, jn_15, jn_16, jn_20, jn_21, jn_22, jn_23, jn_24, jn_25, jn_26, jn_27, jn_28, jn_29, jn_30, jn_31, jn_32, jn_33, jn_34, jn_35, jn_36, jn_37, jn_38, jn_39, jn_40, jn_41, jn_42, jn_43, jn_44, jn_50, js_0, js_1, js_2, js_3, js_4, js_5, js_6, js_7, js_8, js_9, js_10, js_11, js_12, js_13, js_14, js_15, js_16, js_20, js_21, js_22, js_23, js_24, js_25, js_26, js_27, js_28, js_29, js_30, js_31, js_32, js_33, js_34, js_35, js_36, js_37, js_38, js_39, js_40, js_41, js_42, js_43, js_44, js_50, bd_0, bd_1, bd_2, bd_3, let_e, nz_0, nz_1, nz_n0, nz_n1, ix_n, nl_0, nl_1, nl_2, nl_3, nl_4, nl_5, nl_6, nl_7, nl_8, nl_9, nl_10, nl_11, nl_12, nl_16, nl_40, nl_64, nl_200, nl_1000, nl_m, nl_m2, nar_0, nar_1, nI_cl, nI_E, nI_L, nI_T, nI_m, nI_m', nI_ng, nN_lt, nN_le, nI_add, pk_mul, nI_S, nI_R4, nI_R64, nI_32, st_eq, st_k, st_j, if_true, if_false, Nat.not_lt_zero, Nat.zero_le]
            rw [f_Mo_isAbove_l2]
            simp +decide (disch := omega) only [f_Mo_isAbove_b21, f_Mo_isAbove_b31, Bool.false_eq_true, jn_0, jn_1, jn_2, jn_3, jn_4, jn_5, jn_6, jn_7, jn_8, jn_9, jn_10, jn_11, jn_12, jn_13, jn_14, jn_15, jn_16, jn_20, jn_21, jn_22, jn_23, jn_24, jn_25, jn_26, jn_27, jn_28, jn_29, jn_30, jn_31, jn_32, jn_33, jn_34, jn_35, jn_36, jn_37, jn_38, jn_39, jn_40, jn_41, jn_42, jn_43, jn_44, jn_50, js_0, js_1, js_2, js_3, js_4, js_5, js_6, js_7, js_8, js_9, js_10, js_11, js_12, js_13, js_14, js_15, js_16, js_20, js_21, js_22, js_23, js_24, js_25, js_26, js_27, js_28, js_29, js_30, js_31, js_32, js_33, js_34, js_35, js_36, js_37, js_38, js_39, js_40, js_41, js_42, js_43, js_44, js_50, bd_0, bd_1, bd_2, bd_3, let_e, nz_0, nz_1, nz_n0, nz_n1, ix_n, nl_0, nl_1, nl_2, nl_3, nl_4, nl_5, nl_6, nl_7, nl_8, nl_9, nl_10, nl_11, nl_12, nl_16, nl_40, nl_64, nl_200, nl_1000, nl_m, nl_m2, nar_0, nar_1, nI_cl, nI_E, nI_L, nI_T, nI_m, nI_m', nI_ng, nN_lt, nN_le, nI_add, pk_mul, nI_S, nI_R4, nI_R64, nI_32, st_eq, st_k, st_j, if_true, if_false, Nat.not_lt_zero, Nat.zero_le]
        · rw [pr3_p (by omega)] at p
          have hlt := pa3_lt sh b (by omega)
          have s : an sh l (f + 1) b = an sh l f (pa3 sh b) := an_s e e0
          rw [s]
          simp +decide (disch := omega) only [e, p, jn_0, jn_1, jn_2, jn_3, jn_4, jn_5, jn_6, jn_7, jn_8, jn_9, jn_10, jn_11, jn_12, jn_13, jn_14, jn_15, jn_16, jn_20, jn_21, jn_22, jn_23, jn_24, jn_25, jn_26, jn_27, jn_28, jn_29, jn_30, jn_31, jn_32, jn_33, jn_34, jn_35, jn_36, jn_37, jn_38, jn_39, jn_40, jn_41, jn_42, jn_43, jn_44, jn_50, js_0, js_1, js_2, js_3, js_4, js_5, js_6, js_7, js_8, js_9, js_10, js_11, js_12, js_13, js_14, js_15, js_16, js_20, js_21, js_22, js_23, js_24, js_25, js_26, js_27, js_28, js_29, js_30, js_31, js_32, js_33, js_34, js_35, js_36, js_37, js_38, js_39, js_40, js_41, js_42, js_43, js_44, js_50, bd_0, bd_1, bd_2, bd_3, let_e, nz_0, nz_1, nz_n0, nz_n1, ix_n, nl_0, nl_1, nl_2, nl_3, nl_4, nl_5, nl_6, nl_7, nl_8, nl_9, nl_10, nl_11, nl_12, nl_16, nl_40, nl_64, nl_200, nl_1000, nl_m, nl_m2, nar_0, nar_1, nI_cl, nI_E, nI_L, nI_T, nI_m, nI_m', nI_ng, nN_lt, nN_le, nI_add, pk_mul, nI_S, nI_R4, nI_R64, nI_32, st_eq, st_k, st_j, if_true, if_false, Nat.not_lt_zero, Nat.zero_le]
          exact ih f (pa3 sh b) (by omega) (by omega) (by omega)
theorem q_tw {n sh : Nat} {M : mm_M} {A : mm_A} (h : Rm n sh M A) {l : Nat} (hl : l < 12) (C : mm_M) : ∀ (k f b : Nat), b < k → b < f → b < 12 → b ≠ l → an sh l f b = true → f_Mo_towards_l18 n k (jn C M) 0 (nI l) (nI b) = some (0, nI (tw sh l f b), jn C M) := by
  intro k
  induction k with
  | zero =>
    intro f b h1
    omega
  | succ k ih =>
    intro f b h1 h2 h3 h4 h5
    rw [f_Mo_towards_l18]
    cases f with
    | zero => omega
    | succ f =>
      have e0 : b ≠ 0 := fun w => by
        subst w
        simp [an, h4] at h5
      have p := h.2.2.2.2.2.2 b h3
      rw [pr3_p (by omega)] at p
      have hlt := pa3_lt sh b (by omega)
      by_cases e2 : pa3 sh b = l
      · have s : tw sh l (f + 1) b = b := if_pos e2
        rw [s]
        simp +decide (disch := omega) only [p, e2, jn_0, jn_1, jn_2, jn_3, jn_4, jn_5, jn_6, jn_7, jn_8, jn_9, jn_10, jn_11, jn_12, jn_13, jn_14, jn_15, jn_16, jn_20, jn_21, jn_22, jn_23, jn_24, jn_25, jn_26, jn_27, jn_28, jn_29, jn_30, jn_31, jn_32, jn_33, jn_34, jn_35, jn_36, jn_37, jn_38, jn_39, jn_40, jn_41, jn_42, jn_43, jn_44, jn_50, js_0, js_1, js_2, js_3, js_4, js_5, js_6, js_7, js_8, js_9, js_10, js_11, js_12, js_13, js_14, js_15, js_16, js_20, js_21, js_22, js_23, js_24, js_25, js_26, js_27, js_28, js_29, js_30, js_31, js_32, js_33, js_34, js_35, js_36, js_37, js_38, js_39, js_40, js_41, js_42, js_43, js_44, js_50, bd_0, bd_1, bd_2, bd_3, let_e, nz_0, nz_1, nz_n0, nz_n1, ix_n, nl_0, nl_1, nl_2, nl_3, nl_4, nl_5, nl_6, nl_7, nl_8, nl_9, nl_10, nl_11, nl_12, nl_16, nl_40, nl_64, nl_200, nl_1000, nl_m, nl_m2, nar_0, nar_1, nI_cl, nI_E, nI_L, nI_T, nI_m, nI_m', nI_ng, nN_lt, nN_le, nI_add, pk_mul, nI_S, nI_R4, nI_R64, nI_32, st_eq, st_k, st_j, if_true, if_false, Nat.not_lt_zero, Nat.zero_le]
      · have s : tw sh l (f + 1) b = tw sh l f (pa3 sh b) := if_neg e2
        rw [s]
        have h6 : an sh l f (pa3 sh b) = true := by
          simp [an, h4, e0] at h5
          exact h5
        simp +decide (disch := omega) only [p, e2, jn_0, jn_1, jn_2, jn_3, jn_4, jn_5, jn_6, jn_7, jn_8, jn_9, jn_10, jn_11, jn_12, jn_13, jn_14, jn_15, jn_16, jn_20, jn_21, jn_22, jn_23, jn_24, jn_25, jn_26, jn_27, jn_28, jn_29, jn_30, jn_31, jn_32, jn_33, jn_34, jn_35, jn_36, jn_37, jn_38, jn_39, jn_40, jn_41, jn_42, jn_43, jn_44, jn_50, js_0, js_1, js_2, js_3, js_4, js_5, js_6, js_7, js_8, js_9, js_10, js_11, js_12, js_13, js_14, js_15, js_16, js_20, js_21, js_22, js_23, js_24, js_25, js_26, js_27, js_28, js_29, js_30, js_31, js_32, js_33, js_34, js_35, js_36, js_37, js_38, js_39, js_40, js_41, js_42, js_43, js_44, js_50, bd_0, bd_1, bd_2, bd_3, let_e, nz_0, nz_1, nz_n0, nz_n1, ix_n, nl_0, nl_1, nl_2, nl_3, nl_4, nl_5, nl_6, nl_7, nl_8, nl_9, nl_10, nl_11, nl_12, nl_16, nl_40, nl_64, nl_200, nl_1000, nl_m, nl_m2, nar_0, nar_1, nI_cl, nI_E, nI_L, nI_T, nI_m, nI_m', nI_ng, nN_lt, nN_le, nI_add, pk_mul, nI_S, nI_R4, nI_R64, nI_32, st_eq, st_k, st_j, if_true, if_false, Nat.not_lt_zero, Nat.zero_le]
        exact ih f (pa3 sh b) (by omega) (by omega) (by omega) e2 h6
theorem q_sw {n sh : Nat} {M : mm_M} {A : mm_A} (h : Rm n sh M A) (hs : sh < 3) (hn : n ≤ 12) {l t : Nat} (hl : l < n) (ht : t < n) (hne : ¬ l = t) (C : mm_M) : f_Mo_towards n (jn C M) 0 (nI l) (nI t) = some (0, nI (sw sh l t), jn C M) := by
  have a := q_above h (l := l) (by omega) C 4096 12 t (by omega) (by omega) (by omega)
  have w := tw_b sh hs t (by omega) l (by omega)
  have hne' : ¬ t = l := fun e => hne e.symm
  rcases e : an sh l 12 t
  · rw [e] at a w
    simp [hne] at w
    have p := h.2.2.2.2.2.2 l (by omega)
    rw [pr3_p (by omega)] at p
    rw [w.1]
    simp +decide (disch := omega) only [f_Mo_towards, f_Mo_isAbove, a, p, Bool.false_eq_true, jn_0, jn_1, jn_2, jn_3, jn_4, jn_5, jn_6, jn_7, jn_8, jn_9, jn_10, jn_11, jn_12, jn_13, jn_14, jn_15, jn_16, jn_20, jn_21, jn_22, jn_23, jn_24, jn_25, jn_26, jn_27, jn_28, jn_29, jn_30, jn_31, jn_32, jn_33, jn_34, jn_35, jn_36, jn_37, jn_38, jn_39, jn_40, jn_41, jn_42, jn_43, jn_44, jn_50, js_0, js_1, js_2, js_3, js_4, js_5, js_6, js_7, js_8, js_9, js_10, js_11, js_12, js_13, js_14, js_15, js_16, js_20, js_21, js_22, js_23, js_24, js_25, js_26, js_27, js_28, js_29, js_30, js_31, js_32, js_33, js_34, js_35, js_36, js_37, js_38, js_39, js_40, js_41, js_42, js_43, js_44, js_50, bd_0, bd_1, bd_2, bd_3, let_e, nz_0, nz_1, nz_n0, nz_n1, ix_n, nl_0, nl_1, nl_2, nl_3, nl_4, nl_5, nl_6, nl_7, nl_8, nl_9, nl_10, nl_11, nl_12, nl_16, nl_40, nl_64, nl_200, nl_1000, nl_m, nl_m2, nar_0, nar_1, nI_cl, nI_E, nI_L, nI_T, nI_m, nI_m', nI_ng, nN_lt, nN_le, nI_add, pk_mul, nI_S, nI_R4, nI_R64, nI_32, st_eq, st_k, st_j, if_true, if_false, Nat.not_lt_zero, Nat.zero_le]
  · rw [e] at a w
    simp [hne] at w
    have b := q_tw h (l := l) (by omega) C 4096 12 t (by omega) (by omega) (by omega) hne' e
    rw [w]
    simp +decide (disch := omega) only [f_Mo_towards, f_Mo_isAbove, a, jn_0, jn_1, jn_2, jn_3, jn_4, jn_5, jn_6, jn_7, jn_8, jn_9, jn_10, jn_11, jn_12, jn_13, jn_14, jn_15, jn_16, jn_20, jn_21, jn_22, jn_23, jn_24, jn_25, jn_26, jn_27, jn_28, jn_29, jn_30, jn_31, jn_32, jn_33, jn_34, jn_35, jn_36, jn_37, jn_38, jn_39, jn_40, jn_41, jn_42, jn_43, jn_44, jn_50, js_0, js_1, js_2, js_3, js_4, js_5, js_6, js_7, js_8, js_9, js_10, js_11, js_12, js_13, js_14, js_15, js_16, js_20, js_21, js_22, js_23, js_24, js_25, js_26, js_27, js_28, js_29, js_30, js_31, js_32, js_33, js_34, js_35, js_36, js_37, js_38, js_39, js_40, js_41, js_42, js_43, js_44, js_50, bd_0, bd_1, bd_2, bd_3, let_e, nz_0, nz_1, nz_n0, nz_n1, ix_n, nl_0, nl_1, nl_2, nl_3, nl_4, nl_5, nl_6, nl_7, nl_8, nl_9, nl_10, nl_11, nl_12, nl_16, nl_40, nl_64, nl_200, nl_1000, nl_m, nl_m2, nar_0, nar_1, nI_cl, nI_E, nI_L, nI_T, nI_m, nI_m', nI_ng, nN_lt, nN_le, nI_add, pk_mul, nI_S, nI_R4, nI_R64, nI_32, st_eq, st_k, st_j, if_true, if_false, Nat.not_lt_zero, Nat.zero_le]
    exact b
theorem q_sw' {n sh : Nat} {M M1 : mm_M} {A : mm_A} (h : Rm n sh M A) (h21 : M1 21 = M 21) (h20 : M1 20 = M 20) (hs : sh < 3) (hn : n ≤ 12) {l t : Nat} (hl : l < n) (ht : t < n) (hne : ¬ l = t) (C : mm_M) : f_Mo_towards n (jn C M1) 0 (nI l) (nI t) = some (0, nI (sw sh l t), jn C M1) := by
  -- only the parents are read
  have e : M1 = jn M1 M1 := (jn_self M1).symm
  have hm : Rm n sh (fun a => if a = 21 then M1 21 else if a = 20 then M1 20 else M a) A := by
    have : (fun a => if a = 21 then M1 21 else if a = 20 then M1 20 else M a) = M := by
      funext a
      by_cases q : a = 21
      · subst q
        simp [h21]
      · by_cases q2 : a = 20
        · subst q2
          simp [h20]
        · simp [q, q2]
    rw [this]
    exact h
  have ha : ∀ (k f b : Nat), b + 1 < k → b < f → b < 12 → f_Mo_isAbove_l2 n k (jn C M1) 0 (nI l) (nI b) = some (0, nI (if an sh l f b then 1 else 0), jn C M1) := by
    intro k
    induction k with
    | zero =>
      intro f b h1
      omega
    | succ k ih =>
      intro f b h1 h2 h3
      rw [f_Mo_isAbove_l2]
      cases f with
      | zero => omega
      | succ f =>
        by_cases e : b = l
        · have s : an sh l (f + 1) b = true := by simp [an, e]
          rw [s]
          simp +decide (disch := omega) only [f_Mo_isAbove_b21, f_Mo_isAbove_b31, e, jn_0, jn_1, jn_2, jn_3, jn_4, jn_5, jn_6, jn_7, jn_8, jn_9, jn_10, jn_11, jn_12, jn_13, jn_14, jn_15, jn_16, jn_20, jn_21, jn_22, jn_23, jn_24, jn_25, jn_26, jn_27, jn_28, jn_29, jn_30, jn_31, jn_32, jn_33, jn_34, jn_35, jn_36, jn_37, jn_38, jn_39, jn_40, jn_41, jn_42, jn_43, jn_44, jn_50, js_0, js_1, js_2, js_3, js_4, js_5, js_6, js_7, js_8, js_9, js_10, js_11, js_12, js_13, js_14, js_15, js_16, js_20, js_21, js_22, js_23, js_24, js_25, js_26, js_27, js_28, js_29, js_30, js_31, js_32, js_33, js_34, js_35, js_36, js_37, js_38, js_39, js_40, js_41, js_42, js_43, js_44, js_50, bd_0, bd_1, bd_2, bd_3, let_e, nz_0, nz_1, nz_n0, nz_n1, ix_n, nl_0, nl_1, nl_2, nl_3, nl_4, nl_5, nl_6, nl_7, nl_8, nl_9, nl_10, nl_11, nl_12, nl_16, nl_40, nl_64, nl_200, nl_1000, nl_m, nl_m2, nar_0, nar_1, nI_cl, nI_E, nI_L, nI_T, nI_m, nI_m', nI_ng, nN_lt, nN_le, nI_add, pk_mul, nI_S, nI_R4, nI_R64, nI_32, st_eq, st_k, st_j, if_true, if_false, Nat.not_lt_zero, Nat.zero_le]
        · have p := h.2.2.2.2.2.2 b h3
          rw [← h21] at p
          by_cases e0 : b = 0
          · have s : an sh l (f + 1) b = false := by
              subst e0
              simp [an, e]
            rw [s]
            have p0 : M1 21 0 0 = nN := by
              rw [h21]
              exact h.2.2.2.2.2.2 0 (by omega)
            subst e0
            cases k with
            | zero => omega
            | succ k =>
              simp +decide (disch := omega) only [e, p0, jn_0, jn_1, jn_2, jn_3, jn_4, jn_5, jn_6, jn_7, jn_8, jn_9, jn_10, jn_11, jn_12, jn_13, jn_14, jn_15, jn_16, jn_20, jn_21, jn_22, jn_23, jn_24, jn_25, jn_26, jn_27, jn_28, jn_29, jn_30, jn_31, jn_32, jn_33, jn_34, jn_35, jn_36, jn_37, jn_38, jn_39, jn_40, jn_41, jn_42, jn_43, jn_44, jn_50, js_0, js_1, js_2, js_3, js_4, js_5, js_6, js_7, js_8, js_9, js_10, js_11, js_12, js_13, js_14, js_15, js_16, js_20, js_21, js_22, js_23, js_24, js_25, js_26, js_27, js_28, js_29, js_30, js_31, js_32, js_33, js_34, js_35, js_36, js_37, js_38, js_39, js_40, js_41, js_42, js_43, js_44, js_50, bd_0, bd_1, bd_2, bd_3, let_e, nz_0, nz_1, nz_n0, nz_n1, ix_n, nl_0, nl_1, nl_2, nl_3, nl_4, nl_5, nl_6, nl_7, nl_8, nl_9, nl_10, nl_11, nl_12, nl_16, nl_40, nl_64, nl_200, nl_1000, nl_m, nl_m2, nar_0, nar_1, nI_cl, nI_E, nI_L, nI_T, nI_m, nI_m', nI_ng, nN_lt, nN_le, nI_add, pk_mul, nI_S, nI_R4, nI_R64, nI_32, st_eq, st_k, st_j, if_true, if_false, Nat.not_lt_zero, Nat.zero_le]
              rw [f_Mo_isAbove_l2]
              simp +decide (disch := omega) only [f_Mo_isAbove_b21, f_Mo_isAbove_b31, Bool.false_eq_true, jn_0, jn_1, jn_2, jn_3, jn_4, jn_5, jn_6, jn_7, jn_8, jn_9, jn_10, jn_11, jn_12, jn_13, jn_14, jn_15, jn_16, jn_20, jn_21, jn_22, jn_23, jn_24, jn_25, jn_26, jn_27, jn_28, jn_29, jn_30, jn_31, jn_32, jn_33, jn_34, jn_35, jn_36, jn_37, jn_38, jn_39, jn_40, jn_41, jn_42, jn_43, jn_44, jn_50, js_0, js_1, js_2, js_3, js_4, js_5, js_6, js_7, js_8, js_9, js_10, js_11, js_12, js_13, js_14, js_15, js_16, js_20, js_21, js_22, js_23, js_24, js_25, js_26, js_27, js_28, js_29, js_30, js_31, js_32, js_33, js_34, js_35, js_36, js_37, js_38, js_39, js_40, js_41, js_42, js_43, js_44, js_50, bd_0, bd_1, bd_2, bd_3, let_e, nz_0, nz_1, nz_n0, nz_n1, ix_n, nl_0, nl_1, nl_2, nl_3, nl_4, nl_5, nl_6, nl_7, nl_8, nl_9, nl_10, nl_11, nl_12, nl_16, nl_40, nl_64, nl_200, nl_1000, nl_m, nl_m2, nar_0, nar_1, nI_cl, nI_E, nI_L, nI_T, nI_m, nI_m', nI_ng, nN_lt, nN_le, nI_add, pk_mul, nI_S, nI_R4, nI_R64, nI_32, st_eq, st_k, st_j, if_true, if_false, Nat.not_lt_zero, Nat.zero_le]
          · rw [pr3_p (by omega)] at p
            have hlt := pa3_lt sh b (by omega)
            have s : an sh l (f + 1) b = an sh l f (pa3 sh b) := an_s e e0
            rw [s]
            simp +decide (disch := omega) only [e, p, jn_0, jn_1, jn_2, jn_3, jn_4, jn_5, jn_6, jn_7, jn_8, jn_9, jn_10, jn_11, jn_12, jn_13, jn_14, jn_15, jn_16, jn_20, jn_21, jn_22, jn_23, jn_24, jn_25, jn_26, jn_27, jn_28, jn_29, jn_30, jn_31, jn_32, jn_33, jn_34, jn_35, jn_36, jn_37, jn_38, jn_39, jn_40, jn_41, jn_42, jn_43, jn_44, jn_50, js_0, js_1, js_2, js_3, js_4, js_5, js_6, js_7, js_8, js_9, js_10, js_11, js_12, js_13, js_14, js_15, js_16, js_20, js_21, js_22, js_23, js_24, js_25, js_26, js_27, js_28, js_29, js_30, js_31, js_32, js_33, js_34, js_35, js_36, js_37, js_38, js_39, js_40, js_41, js_42, js_43, js_44, js_50, bd_0, bd_1, bd_2, bd_3, let_e, nz_0, nz_1, nz_n0, nz_n1, ix_n, nl_0, nl_1, nl_2, nl_3, nl_4, nl_5, nl_6, nl_7, nl_8, nl_9, nl_10, nl_11, nl_12, nl_16, nl_40, nl_64, nl_200, nl_1000, nl_m, nl_m2, nar_0, nar_1, nI_cl, nI_E, nI_L, nI_T, nI_m, nI_m', nI_ng, nN_lt, nN_le, nI_add, pk_mul, nI_S, nI_R4, nI_R64, nI_32, st_eq, st_k, st_j, if_true, if_false, Nat.not_lt_zero, Nat.zero_le]
            exact ih f (pa3 sh b) (by omega) (by omega) (by omega)
  have hb : ∀ (k f b : Nat), b < k → b < f → b < 12 → b ≠ l → an sh l f b = true → f_Mo_towards_l18 n k (jn C M1) 0 (nI l) (nI b) = some (0, nI (tw sh l f b), jn C M1) := by
    intro k
    induction k with
    | zero =>
      intro f b h1
      omega
    | succ k ih =>
      intro f b h1 h2 h3 h4 h5
      rw [f_Mo_towards_l18]
      cases f with
      | zero => omega
      | succ f =>
        have e0 : b ≠ 0 := fun w => by
          subst w
          simp [an, h4] at h5
        have p := h.2.2.2.2.2.2 b h3
        rw [← h21, pr3_p (by omega)] at p
        have hlt := pa3_lt sh b (by omega)
        by_cases e2 : pa3 sh b = l
        · have s : tw sh l (f + 1) b = b := if_pos e2
          rw [s]
          simp +decide (disch := omega) only [p, e2, jn_0, jn_1, jn_2, jn_3, jn_4, jn_5, jn_6, jn_7, jn_8, jn_9, jn_10, jn_11, jn_12, jn_13, jn_14, jn_15, jn_16, jn_20, jn_21, jn_22, jn_23, jn_24, jn_25, jn_26, jn_27, jn_28, jn_29, jn_30, jn_31, jn_32, jn_33, jn_34, jn_35, jn_36, jn_37, jn_38, jn_39, jn_40, jn_41, jn_42, jn_43, jn_44, jn_50, js_0, js_1, js_2, js_3, js_4, js_5, js_6, js_7, js_8, js_9, js_10, js_11, js_12, js_13, js_14, js_15, js_16, js_20, js_21, js_22, js_23, js_24, js_25, js_26, js_27, js_28, js_29, js_30, js_31, js_32, js_33, js_34, js_35, js_36, js_37, js_38, js_39, js_40, js_41, js_42, js_43, js_44, js_50, bd_0, bd_1, bd_2, bd_3, let_e, nz_0, nz_1, nz_n0, nz_n1, ix_n, nl_0, nl_1, nl_2, nl_3, nl_4, nl_5, nl_6, nl_7, nl_8, nl_9, nl_10, nl_11, nl_12, nl_16, nl_40, nl_64, nl_200, nl_1000, nl_m, nl_m2, nar_0, nar_1, nI_cl, nI_E, nI_L, nI_T, nI_m, nI_m', nI_ng, nN_lt, nN_le, nI_add, pk_mul, nI_S, nI_R4, nI_R64, nI_32, st_eq, st_k, st_j, if_true, if_false, Nat.not_lt_zero, Nat.zero_le]
        · have s : tw sh l (f + 1) b = tw sh l f (pa3 sh b) := if_neg e2
          rw [s]
          have h6 : an sh l f (pa3 sh b) = true := by
            simp [an, h4, e0] at h5
            exact h5
          simp +decide (disch := omega) only [p, e2, jn_0, jn_1, jn_2, jn_3, jn_4, jn_5, jn_6, jn_7, jn_8, jn_9, jn_10, jn_11, jn_12, jn_13, jn_14, jn_15, jn_16, jn_20, jn_21, jn_22, jn_23, jn_24, jn_25, jn_26, jn_27, jn_28, jn_29, jn_30, jn_31, jn_32, jn_33, jn_34, jn_35, jn_36, jn_37, jn_38, jn_39, jn_40, jn_41, jn_42, jn_43, jn_44, jn_50, js_0, js_1, js_2, js_3, js_4, js_5, js_6, js_7, js_8, js_9, js_10, js_11, js_12, js_13, js_14, js_15, js_16, js_20, js_21, js_22, js_23, js_24, js_25, js_26, js_27, js_28, js_29, js_30, js_31, js_32, js_33, js_34, js_35, js_36, js_37, js_38, js_39, js_40, js_41, js_42, js_43, js_44, js_50, bd_0, bd_1, bd_2, bd_3, let_e, nz_0, nz_1, nz_n0, nz_n1, ix_n, nl_0, nl_1, nl_2, nl_3, nl_4, nl_5, nl_6, nl_7, nl_8, nl_9, nl_10, nl_11, nl_12, nl_16, nl_40, nl_64, nl_200, nl_1000, nl_m, nl_m2, nar_0, nar_1, nI_cl, nI_E, nI_L, nI_T, nI_m, nI_m', nI_ng, nN_lt, nN_le, nI_add, pk_mul, nI_S, nI_R4, nI_R64, nI_32, st_eq, st_k, st_j, if_true, if_false, Nat.not_lt_zero, Nat.zero_le]
          exact ih f (pa3 sh b) (by omega) (by omega) (by omega) e2 h6
  have a := ha 4096 12 t (by omega) (by omega) (by omega)
  have w := tw_b sh hs t (by omega) l (by omega)
  have hne' : ¬ t = l := fun e => hne e.symm
  rcases e : an sh l 12 t
  · rw [e] at a w
    simp [hne] at w
    have p := h.2.2.2.2.2.2 l (by omega)
    rw [← h21, pr3_p (by omega)] at p
    rw [w.1]
    simp +decide (disch := omega) only [f_Mo_towards, f_Mo_isAbove, a, p, Bool.false_eq_true, jn_0, jn_1, jn_2, jn_3, jn_4, jn_5, jn_6, jn_7, jn_8, jn_9, jn_10, jn_11, jn_12, jn_13, jn_14, jn_15, jn_16, jn_20, jn_21, jn_22, jn_23, jn_24, jn_25, jn_26, jn_27, jn_28, jn_29, jn_30, jn_31, jn_32, jn_33, jn_34, jn_35, jn_36, jn_37, jn_38, jn_39, jn_40, jn_41, jn_42, jn_43, jn_44, jn_50, js_0, js_1, js_2, js_3, js_4, js_5, js_6, js_7, js_8, js_9, js_10, js_11, js_12, js_13, js_14, js_15, js_16, js_20, js_21, js_22, js_23, js_24, js_25, js_26, js_27, js_28, js_29, js_30, js_31, js_32, js_33, js_34, js_35, js_36, js_37, js_38, js_39, js_40, js_41, js_42, js_43, js_44, js_50, bd_0, bd_1, bd_2, bd_3, let_e, nz_0, nz_1, nz_n0, nz_n1, ix_n, nl_0, nl_1, nl_2, nl_3, nl_4, nl_5, nl_6, nl_7, nl_8, nl_9, nl_10, nl_11, nl_12, nl_16, nl_40, nl_64, nl_200, nl_1000, nl_m, nl_m2, nar_0, nar_1, nI_cl, nI_E, nI_L, nI_T, nI_m, nI_m', nI_ng, nN_lt, nN_le, nI_add, pk_mul, nI_S, nI_R4, nI_R64, nI_32, st_eq, st_k, st_j, if_true, if_false, Nat.not_lt_zero, Nat.zero_le]
  · rw [e] at a w
    simp [hne] at w
    have b := hb 4096 12 t (by omega) (by omega) (by omega) hne' e
    rw [w]
    simp +decide (disch := omega) only [f_Mo_towards, f_Mo_isAbove, a, jn_0, jn_1, jn_2, jn_3, jn_4, jn_5, jn_6, jn_7, jn_8, jn_9, jn_10, jn_11, jn_12, jn_13, jn_14, jn_15, jn_16, jn_20, jn_21, jn_22, jn_23, jn_24, jn_25, jn_26, jn_27, jn_28, jn_29, jn_30, jn_31, jn_32, jn_33, jn_34, jn_35, jn_36, jn_37, jn_38, jn_39, jn_40, jn_41, jn_42, jn_43, jn_44, jn_50, js_0, js_1, js_2, js_3, js_4, js_5, js_6, js_7, js_8, js_9, js_10, js_11, js_12, js_13, js_14, js_15, js_16, js_20, js_21, js_22, js_23, js_24, js_25, js_26, js_27, js_28, js_29, js_30, js_31, js_32, js_33, js_34, js_35, js_36, js_37, js_38, js_39, js_40, js_41, js_42, js_43, js_44, js_50, bd_0, bd_1, bd_2, bd_3, let_e, nz_0, nz_1, nz_n0, nz_n1, ix_n, nl_0, nl_1, nl_2, nl_3, nl_4, nl_5, nl_6, nl_7, nl_8, nl_9, nl_10, nl_11, nl_12, nl_16, nl_40, nl_64, nl_200, nl_1000, nl_m, nl_m2, nar_0, nar_1, nI_cl, nI_E, nI_L, nI_T, nI_m, nI_m', nI_ng, nN_lt, nN_le, nI_add, pk_mul, nI_S, nI_R4, nI_R64, nI_32, st_eq, st_k, st_j, if_true, if_false, Nat.not_lt_zero, Nat.zero_le]
    exact b
theorem q_settle {n sh : Nat} {A : mm_A} {M0 : mm_M} (h0 : Rm n sh M0 A) (hs : sh < 3) (hn : n ≤ 12) {c t : Nat} (hc : c < 3) (ht : t < n) : ∀ (k m j : Nat) (M : mm_M), j + m = n → m < k → M 20 = M0 20 → M 21 = M0 21 → ∃ M', (∀ C, f_Mo_copyAt_l60 n k (jn C M) 0 (nI c) (nI t) (nI j) = some (0, nI 0, jn C M')) ∧ (∀ a, a < 24 ∨ 26 < a → M' a = M a) ∧ (∀ a x, (x < 12 * c + j ∨ 12 * c + n ≤ x) → M' a 0 x = M a 0 x) ∧ (∀ q, j ≤ q → q < n → M' 24 0 (12 * c + q) = nI (sw sh q t) ∧ M' 25 0 (12 * c + q) = nN ∧ M' 26 0 (12 * c + q) = nI (if q = t then 4 else 0)) := by
  intro k
  induction k with
  | zero =>
    intro m j M _ h2
    omega
  | succ k ih =>
    intro m j M h1 h2 h3 h4
    have h12 : M 20 0 1 = nI n := by
      rw [h3]
      exact h0.2.2.2.2.2.1
    cases m with
    | zero =>
      refine ⟨M, fun C => ?_, fun _ _ => rfl, fun _ _ _ => rfl, fun q q1 q2 => by omega⟩
      rw [f_Mo_copyAt_l60]
      have e : n ≤ j := by omega
      simp +decide (disch := omega) only [h12, e, jn_0, jn_1, jn_2, jn_3, jn_4, jn_5, jn_6, jn_7, jn_8, jn_9, jn_10, jn_11, jn_12, jn_13, jn_14, jn_15, jn_16, jn_20, jn_21, jn_22, jn_23, jn_24, jn_25, jn_26, jn_27, jn_28, jn_29, jn_30, jn_31, jn_32, jn_33, jn_34, jn_35, jn_36, jn_37, jn_38, jn_39, jn_40, jn_41, jn_42, jn_43, jn_44, jn_50, js_0, js_1, js_2, js_3, js_4, js_5, js_6, js_7, js_8, js_9, js_10, js_11, js_12, js_13, js_14, js_15, js_16, js_20, js_21, js_22, js_23, js_24, js_25, js_26, js_27, js_28, js_29, js_30, js_31, js_32, js_33, js_34, js_35, js_36, js_37, js_38, js_39, js_40, js_41, js_42, js_43, js_44, js_50, bd_0, bd_1, bd_2, bd_3, let_e, nz_0, nz_1, nz_n0, nz_n1, ix_n, nl_0, nl_1, nl_2, nl_3, nl_4, nl_5, nl_6, nl_7, nl_8, nl_9, nl_10, nl_11, nl_12, nl_16, nl_40, nl_64, nl_200, nl_1000, nl_m, nl_m2, nar_0, nar_1, nI_cl, nI_E, nI_L, nI_T, nI_m, nI_m', nI_ng, nN_lt, nN_le, nI_add, pk_mul, nI_S, nI_R4, nI_R64, nI_32, st_eq, st_k, st_j, if_true, if_false, Nat.not_lt_zero, Nat.zero_le]
    | succ m =>
      have e : ¬ n ≤ j := by omega
      have hj : j < n := by omega
      have hc0 : 12 * c + j < 36 := by omega
      obtain ⟨M', i1, i2, i3, i4⟩ := ih m (j + 1) (mm_st (mm_st (mm_st M 24 0 (12 * c + j) (nI (sw sh j t))) 25 0 (12 * c + j) nN) 26 0 (12 * c + j) (nI (if j = t then 4 else 0))) (by omega) (by omega) (by rw [st_k (by decide), st_k (by decide), st_k (by decide), h3]) (by rw [st_k (by decide), st_k (by decide), st_k (by decide), h4])
      refine ⟨M', fun C => ?_, fun a ha => ?_, fun a x hx => ?_, fun q q1 q2 => ?_⟩
      · have i1 := i1 C
        rw [f_Mo_copyAt_l60]
        by_cases jt : j = t
        · have s : sw sh j t = t := by simp [sw, jt]
          rw [s, if_pos jt] at i1
          subst jt
          simp +decide (disch := omega) only [h12, e, f_Mo_at, jn_0, jn_1, jn_2, jn_3, jn_4, jn_5, jn_6, jn_7, jn_8, jn_9, jn_10, jn_11, jn_12, jn_13, jn_14, jn_15, jn_16, jn_20, jn_21, jn_22, jn_23, jn_24, jn_25, jn_26, jn_27, jn_28, jn_29, jn_30, jn_31, jn_32, jn_33, jn_34, jn_35, jn_36, jn_37, jn_38, jn_39, jn_40, jn_41, jn_42, jn_43, jn_44, jn_50, js_0, js_1, js_2, js_3, js_4, js_5, js_6, js_7, js_8, js_9, js_10, js_11, js_12, js_13, js_14, js_15, js_16, js_20, js_21, js_22, js_23, js_24, js_25, js_26, js_27, js_28, js_29, js_30, js_31, js_32, js_33, js_34, js_35, js_36, js_37, js_38, js_39, js_40, js_41, js_42, js_43, js_44, js_50, bd_0, bd_1, bd_2, bd_3, let_e, nz_0, nz_1, nz_n0, nz_n1, ix_n, nl_0, nl_1, nl_2, nl_3, nl_4, nl_5, nl_6, nl_7, nl_8, nl_9, nl_10, nl_11, nl_12, nl_16, nl_40, nl_64, nl_200, nl_1000, nl_m, nl_m2, nar_0, nar_1, nI_cl, nI_E, nI_L, nI_T, nI_m, nI_m', nI_ng, nN_lt, nN_le, nI_add, pk_mul, nI_S, nI_R4, nI_R64, nI_32, st_eq, st_k, st_j, if_true, if_false, Nat.not_lt_zero, Nat.zero_le]
          exact i1
        · rw [if_neg jt] at i1
          have w := q_sw' h0 h4 h3 hs hn hj ht jt C
          simp +decide (disch := omega) only [h12, e, f_Mo_at, jt, w, jn_0, jn_1, jn_2, jn_3, jn_4, jn_5, jn_6, jn_7, jn_8, jn_9, jn_10, jn_11, jn_12, jn_13, jn_14, jn_15, jn_16, jn_20, jn_21, jn_22, jn_23, jn_24, jn_25, jn_26, jn_27, jn_28, jn_29, jn_30, jn_31, jn_32, jn_33, jn_34, jn_35, jn_36, jn_37, jn_38, jn_39, jn_40, jn_41, jn_42, jn_43, jn_44, jn_50, js_0, js_1, js_2, js_3, js_4, js_5, js_6, js_7, js_8, js_9, js_10, js_11, js_12, js_13, js_14, js_15, js_16, js_20, js_21, js_22, js_23, js_24, js_25, js_26, js_27, js_28, js_29, js_30, js_31, js_32, js_33, js_34, js_35, js_36, js_37, js_38, js_39, js_40, js_41, js_42, js_43, js_44, js_50, bd_0, bd_1, bd_2, bd_3, let_e, nz_0, nz_1, nz_n0, nz_n1, ix_n, nl_0, nl_1, nl_2, nl_3, nl_4, nl_5, nl_6, nl_7, nl_8, nl_9, nl_10, nl_11, nl_12, nl_16, nl_40, nl_64, nl_200, nl_1000, nl_m, nl_m2, nar_0, nar_1, nI_cl, nI_E, nI_L, nI_T, nI_m, nI_m', nI_ng, nN_lt, nN_le, nI_add, pk_mul, nI_S, nI_R4, nI_R64, nI_32, st_eq, st_k, st_j, if_true, if_false, Nat.not_lt_zero, Nat.zero_le]
          exact i1
      · rw [i2 a ha, st_k (by omega), st_k (by omega), st_k (by omega)]
      · rw [i3 a x (by omega)]
        simp only [st_ap]
        rw [if_neg (by omega), if_neg (by omega), if_neg (by omega)]
      · by_cases e2 : q = j
        · subst e2
          rw [i3 24 _ (by omega), i3 25 _ (by omega), i3 26 _ (by omega)]
          simp [st_ap]
        · exact i4 q (by omega) q2
theorem ag_copyAt {n sh T : Nat} {A : mm_A} {C : mm_M} (hs : sh < 3) (hn : n ≤ 12) (hR : Rp n sh C A) (hP : Pr n sh T A) (x y : Int32) : AG n sh T A C (fun g => f_LA_copyAt n g 0 x y) (fun g => f_Mo_copyAt n g 0 x y) [0, 1, 3] th1 := by
  obtain ⟨F, hF⟩ : ∃ F, F = 4096 := ⟨4096, rfl⟩
  have u : ∀ (g : mm_M) (x1 x2 : Int32) (t1 t2 : Int32), f_Mo_copyAt_b36 n g 0 x1 x2 0 t1 t2 = mm_bd (f_Mo_refused n g 0 t1 t2 0) 0 (fun z1 g2 => (if z1 = 0 then mm_ix x1 3 (mm_let (mm_st g2 23 0 x1.toNatClampNeg (vp_nar .boolean 1)) (fun g4 => mm_ix x1 3 (mm_let (mm_st g4 30 0 x1.toNatClampNeg x2) (fun g6 => f_Mo_copyAt_l60 n F g6 0 x1 x2 0)))) else some (0, 0, g2))) := fun g x1 x2 t1 t2 => by
    rw [hF]
    unfold f_Mo_copyAt_b36
    rfl
  rcases tri 3 (by decide) x with hb | ⟨c, hc, rfl⟩
  · refine AG_same hR hP 1 (by simp) (v := nI 0) (v' := nI 0) (fun M => ?_) (fun M hM => ?_) (fun _ => rfl)
    · simp +decide (disch := omega) only [f_LA_copyAt, k_rcb hb, jn_0, jn_1, jn_2, jn_3, jn_4, jn_5, jn_6, jn_7, jn_8, jn_9, jn_10, jn_11, jn_12, jn_13, jn_14, jn_15, jn_16, jn_20, jn_21, jn_22, jn_23, jn_24, jn_25, jn_26, jn_27, jn_28, jn_29, jn_30, jn_31, jn_32, jn_33, jn_34, jn_35, jn_36, jn_37, jn_38, jn_39, jn_40, jn_41, jn_42, jn_43, jn_44, jn_50, js_0, js_1, js_2, js_3, js_4, js_5, js_6, js_7, js_8, js_9, js_10, js_11, js_12, js_13, js_14, js_15, js_16, js_20, js_21, js_22, js_23, js_24, js_25, js_26, js_27, js_28, js_29, js_30, js_31, js_32, js_33, js_34, js_35, js_36, js_37, js_38, js_39, js_40, js_41, js_42, js_43, js_44, js_50, bd_0, bd_1, bd_2, bd_3, let_e, nz_0, nz_1, nz_n0, nz_n1, ix_n, nl_0, nl_1, nl_2, nl_3, nl_4, nl_5, nl_6, nl_7, nl_8, nl_9, nl_10, nl_11, nl_12, nl_16, nl_40, nl_64, nl_200, nl_1000, nl_m, nl_m2, nar_0, nar_1, nI_cl, nI_E, nI_L, nI_T, nI_m, nI_m', nI_ng, nN_lt, nN_le, nI_add, pk_mul, nI_S, nI_R4, nI_R64, nI_32, st_eq, st_k, st_j, if_true, if_false, Nat.not_lt_zero, Nat.zero_le]
    · have ip : f_Mo_isPair n (jn C M) 0 y x = some (0, nI 0, jn C M) := by
        rcases tri n (by omega) y with hy | ⟨l, hl, rfl⟩
        · exact q_ipl hM hy C
        · exact q_ipc hM hn hl hb C
      simp +decide (disch := omega) only [f_Mo_copyAt, f_Mo_copyAt_b15, f_Mo_copyAt_b35, u, ip, q_icb hb, q_r1, th1, jn_0, jn_1, jn_2, jn_3, jn_4, jn_5, jn_6, jn_7, jn_8, jn_9, jn_10, jn_11, jn_12, jn_13, jn_14, jn_15, jn_16, jn_20, jn_21, jn_22, jn_23, jn_24, jn_25, jn_26, jn_27, jn_28, jn_29, jn_30, jn_31, jn_32, jn_33, jn_34, jn_35, jn_36, jn_37, jn_38, jn_39, jn_40, jn_41, jn_42, jn_43, jn_44, jn_50, js_0, js_1, js_2, js_3, js_4, js_5, js_6, js_7, js_8, js_9, js_10, js_11, js_12, js_13, js_14, js_15, js_16, js_20, js_21, js_22, js_23, js_24, js_25, js_26, js_27, js_28, js_29, js_30, js_31, js_32, js_33, js_34, js_35, js_36, js_37, js_38, js_39, js_40, js_41, js_42, js_43, js_44, js_50, bd_0, bd_1, bd_2, bd_3, let_e, nz_0, nz_1, nz_n0, nz_n1, ix_n, nl_0, nl_1, nl_2, nl_3, nl_4, nl_5, nl_6, nl_7, nl_8, nl_9, nl_10, nl_11, nl_12, nl_16, nl_40, nl_64, nl_200, nl_1000, nl_m, nl_m2, nar_0, nar_1, nI_cl, nI_E, nI_L, nI_T, nI_m, nI_m', nI_ng, nN_lt, nN_le, nI_add, pk_mul, nI_S, nI_R4, nI_R64, nI_32, st_eq, st_k, st_j, if_true, if_false, Nat.not_lt_zero, Nat.zero_le]
  rcases tri n (by omega) y with hb | ⟨t, ht, rfl⟩
  · refine AG_same hR hP 1 (by simp) (v := nI 0) (v' := nI 0) (fun M => ?_) (fun M hM => ?_) (fun _ => rfl)
    · simp +decide (disch := omega) only [f_LA_copyAt, k_rc hc, k_rlb hR hb, jn_0, jn_1, jn_2, jn_3, jn_4, jn_5, jn_6, jn_7, jn_8, jn_9, jn_10, jn_11, jn_12, jn_13, jn_14, jn_15, jn_16, jn_20, jn_21, jn_22, jn_23, jn_24, jn_25, jn_26, jn_27, jn_28, jn_29, jn_30, jn_31, jn_32, jn_33, jn_34, jn_35, jn_36, jn_37, jn_38, jn_39, jn_40, jn_41, jn_42, jn_43, jn_44, jn_50, js_0, js_1, js_2, js_3, js_4, js_5, js_6, js_7, js_8, js_9, js_10, js_11, js_12, js_13, js_14, js_15, js_16, js_20, js_21, js_22, js_23, js_24, js_25, js_26, js_27, js_28, js_29, js_30, js_31, js_32, js_33, js_34, js_35, js_36, js_37, js_38, js_39, js_40, js_41, js_42, js_43, js_44, js_50, bd_0, bd_1, bd_2, bd_3, let_e, nz_0, nz_1, nz_n0, nz_n1, ix_n, nl_0, nl_1, nl_2, nl_3, nl_4, nl_5, nl_6, nl_7, nl_8, nl_9, nl_10, nl_11, nl_12, nl_16, nl_40, nl_64, nl_200, nl_1000, nl_m, nl_m2, nar_0, nar_1, nI_cl, nI_E, nI_L, nI_T, nI_m, nI_m', nI_ng, nN_lt, nN_le, nI_add, pk_mul, nI_S, nI_R4, nI_R64, nI_32, st_eq, st_k, st_j, if_true, if_false, Nat.not_lt_zero, Nat.zero_le]
    · have b3 := (hM.2.1 c hc).2.2.2.1
      by_cases h5 : A 5 c 0 = 99
      · rw [if_pos h5] at b3
        simp +decide (disch := omega) only [f_Mo_copyAt, f_Mo_copyAt_b15, f_Mo_copyAt_b35, u, q_ipl hM hb, q_ic hc, b3, q_r1, th1, jn_0, jn_1, jn_2, jn_3, jn_4, jn_5, jn_6, jn_7, jn_8, jn_9, jn_10, jn_11, jn_12, jn_13, jn_14, jn_15, jn_16, jn_20, jn_21, jn_22, jn_23, jn_24, jn_25, jn_26, jn_27, jn_28, jn_29, jn_30, jn_31, jn_32, jn_33, jn_34, jn_35, jn_36, jn_37, jn_38, jn_39, jn_40, jn_41, jn_42, jn_43, jn_44, jn_50, js_0, js_1, js_2, js_3, js_4, js_5, js_6, js_7, js_8, js_9, js_10, js_11, js_12, js_13, js_14, js_15, js_16, js_20, js_21, js_22, js_23, js_24, js_25, js_26, js_27, js_28, js_29, js_30, js_31, js_32, js_33, js_34, js_35, js_36, js_37, js_38, js_39, js_40, js_41, js_42, js_43, js_44, js_50, bd_0, bd_1, bd_2, bd_3, let_e, nz_0, nz_1, nz_n0, nz_n1, ix_n, nl_0, nl_1, nl_2, nl_3, nl_4, nl_5, nl_6, nl_7, nl_8, nl_9, nl_10, nl_11, nl_12, nl_16, nl_40, nl_64, nl_200, nl_1000, nl_m, nl_m2, nar_0, nar_1, nI_cl, nI_E, nI_L, nI_T, nI_m, nI_m', nI_ng, nN_lt, nN_le, nI_add, pk_mul, nI_S, nI_R4, nI_R64, nI_32, st_eq, st_k, st_j, if_true, if_false, Nat.not_lt_zero, Nat.zero_le]
      · rw [if_neg h5] at b3
        simp +decide (disch := omega) only [f_Mo_copyAt, f_Mo_copyAt_b15, f_Mo_copyAt_b35, u, q_ipl hM hb, q_ic hc, b3, q_r1, th1, jn_0, jn_1, jn_2, jn_3, jn_4, jn_5, jn_6, jn_7, jn_8, jn_9, jn_10, jn_11, jn_12, jn_13, jn_14, jn_15, jn_16, jn_20, jn_21, jn_22, jn_23, jn_24, jn_25, jn_26, jn_27, jn_28, jn_29, jn_30, jn_31, jn_32, jn_33, jn_34, jn_35, jn_36, jn_37, jn_38, jn_39, jn_40, jn_41, jn_42, jn_43, jn_44, jn_50, js_0, js_1, js_2, js_3, js_4, js_5, js_6, js_7, js_8, js_9, js_10, js_11, js_12, js_13, js_14, js_15, js_16, js_20, js_21, js_22, js_23, js_24, js_25, js_26, js_27, js_28, js_29, js_30, js_31, js_32, js_33, js_34, js_35, js_36, js_37, js_38, js_39, js_40, js_41, js_42, js_43, js_44, js_50, bd_0, bd_1, bd_2, bd_3, let_e, nz_0, nz_1, nz_n0, nz_n1, ix_n, nl_0, nl_1, nl_2, nl_3, nl_4, nl_5, nl_6, nl_7, nl_8, nl_9, nl_10, nl_11, nl_12, nl_16, nl_40, nl_64, nl_200, nl_1000, nl_m, nl_m2, nar_0, nar_1, nI_cl, nI_E, nI_L, nI_T, nI_m, nI_m', nI_ng, nN_lt, nN_le, nI_add, pk_mul, nI_S, nI_R4, nI_R64, nI_32, st_eq, st_k, st_j, if_true, if_false, Nat.not_lt_zero, Nat.zero_le]
  have hw := wh_lt hP hn hc
  by_cases h5 : A 5 c 0 = 99
  · obtain ⟨C1, f1, p1⟩ := k_settle (A := A) hs hn hc ht 4096 n 0 C (by omega) (by omega) (by
      have : sPl sh A c t 0 = A := by
        funext f i q
        unfold sPl
        rw [if_neg (by omega)]
      rw [this]
      exact hR)
    have P := Pr_place hn hs hP hc ht h5
    refine ⟨0, nI 0, C1, _, by simp, fun M => ?_, p1, Pr_up P (Nat.le_succ T), fun M hM => ?_⟩
    · have f1 : f_Co_settle n (jn C M) c (nI t) 0 = some (0, nI 0, jn C1 M) := by
        unfold f_Co_settle
        exact f1 M
      simp +decide (disch := omega) only [f_LA_copyAt, k_rc hc, k_rl hR hn ht, k_isPn hR hc h5, f1, jn_0, jn_1, jn_2, jn_3, jn_4, jn_5, jn_6, jn_7, jn_8, jn_9, jn_10, jn_11, jn_12, jn_13, jn_14, jn_15, jn_16, jn_20, jn_21, jn_22, jn_23, jn_24, jn_25, jn_26, jn_27, jn_28, jn_29, jn_30, jn_31, jn_32, jn_33, jn_34, jn_35, jn_36, jn_37, jn_38, jn_39, jn_40, jn_41, jn_42, jn_43, jn_44, jn_50, js_0, js_1, js_2, js_3, js_4, js_5, js_6, js_7, js_8, js_9, js_10, js_11, js_12, js_13, js_14, js_15, js_16, js_20, js_21, js_22, js_23, js_24, js_25, js_26, js_27, js_28, js_29, js_30, js_31, js_32, js_33, js_34, js_35, js_36, js_37, js_38, js_39, js_40, js_41, js_42, js_43, js_44, js_50, bd_0, bd_1, bd_2, bd_3, let_e, nz_0, nz_1, nz_n0, nz_n1, ix_n, nl_0, nl_1, nl_2, nl_3, nl_4, nl_5, nl_6, nl_7, nl_8, nl_9, nl_10, nl_11, nl_12, nl_16, nl_40, nl_64, nl_200, nl_1000, nl_m, nl_m2, nar_0, nar_1, nI_cl, nI_E, nI_L, nI_T, nI_m, nI_m', nI_ng, nN_lt, nN_le, nI_add, pk_mul, nI_S, nI_R4, nI_R64, nI_32, st_eq, st_k, st_j, if_true, if_false, Nat.not_lt_zero, Nat.zero_le]
    · have b3 := (hM.2.1 c hc).2.2.2.1
      rw [if_pos h5] at b3
      obtain ⟨M1, m1, i2, i3, i4⟩ := q_settle (Rm_th (v := nI 0) hM) hs hn hc ht 4096 n 0 (mm_st (mm_st (mm_st M 20 0 0 (nI 0)) 23 0 c (nI 1)) 30 0 c (nI t)) (by omega) (by omega) (by rw [st_k (by decide), st_k (by decide)]) (by rw [st_k (by decide), st_k (by decide)])
      refine ⟨nI 0, M1, ?_, ?_, ?_, ?_, fun _ => rfl⟩
      · have m1 := m1 C1
        show f_Mo_copyAt n (jn C1 M) 0 (nI c) (nI t) = _
        have st1 : f_Mo_copyAt n (jn C1 M) 0 (nI c) (nI t) = f_Mo_copyAt_l60 n F (jn C1 (mm_st (mm_st (mm_st M 20 0 0 (nI 0)) 23 0 c (nI 1)) 30 0 c (nI t))) 0 (nI c) (nI t) (nI 0) := by
          clear hF
          simp +decide (disch := omega) only [f_Mo_copyAt, f_Mo_copyAt_b15, f_Mo_copyAt_b35, u, q_ip hM hn ht hc, q_ic hc, b3, q_r0, jn_0, jn_1, jn_2, jn_3, jn_4, jn_5, jn_6, jn_7, jn_8, jn_9, jn_10, jn_11, jn_12, jn_13, jn_14, jn_15, jn_16, jn_20, jn_21, jn_22, jn_23, jn_24, jn_25, jn_26, jn_27, jn_28, jn_29, jn_30, jn_31, jn_32, jn_33, jn_34, jn_35, jn_36, jn_37, jn_38, jn_39, jn_40, jn_41, jn_42, jn_43, jn_44, jn_50, js_0, js_1, js_2, js_3, js_4, js_5, js_6, js_7, js_8, js_9, js_10, js_11, js_12, js_13, js_14, js_15, js_16, js_20, js_21, js_22, js_23, js_24, js_25, js_26, js_27, js_28, js_29, js_30, js_31, js_32, js_33, js_34, js_35, js_36, js_37, js_38, js_39, js_40, js_41, js_42, js_43, js_44, js_50, bd_0, bd_1, bd_2, bd_3, let_e, nz_0, nz_1, nz_n0, nz_n1, ix_n, nl_0, nl_1, nl_2, nl_3, nl_4, nl_5, nl_6, nl_7, nl_8, nl_9, nl_10, nl_11, nl_12, nl_16, nl_40, nl_64, nl_200, nl_1000, nl_m, nl_m2, nar_0, nar_1, nI_cl, nI_E, nI_L, nI_T, nI_m, nI_m', nI_ng, nN_lt, nN_le, nI_add, pk_mul, nI_S, nI_R4, nI_R64, nI_32, st_eq, st_k, st_j, if_true, if_false, Nat.not_lt_zero, Nat.zero_le]
        rw [st1, hF, m1]
      · obtain ⟨r1, r2, r3, r4, r5, r6⟩ := hM
        have k : ∀ a, a < 24 ∨ 26 < a → a ≠ 20 → a ≠ 23 → a ≠ 30 → M1 a = M a := fun a ha h1 h2 h3 => by
          rw [i2 a ha, st_k h3, st_k h2, st_k h1]
        have kk : ∀ a x', (x' < 12 * c ∨ 12 * c + n ≤ x') → 24 ≤ a → a ≤ 26 → M1 a 0 x' = M a 0 x' := fun a x' hx h1 h2 => by
          rw [i3 a x' (by omega), st_k (by omega), st_k (by omega), st_k (by omega)]
        have f : ∀ a, a ≠ 2 → a ≠ 4 → a ≠ 5 → sPlace n sh A c t a = A a := fun a z2 z4 z5 => by
          funext i j
          simp [sPlace, z2, z4, z5]
        have q2 := (hP.2.1 c hc).2.2.1 h5
        refine ⟨?_, ?_, RmL_fr r3 (k _ (by decide) (by decide) (by decide) (by decide)) (k _ (by decide) (by decide) (by decide) (by decide)) (k _ (by decide) (by decide) (by decide) (by decide)) (k _ (by decide) (by decide) (by decide) (by decide)) (k _ (by decide) (by decide) (by decide) (by decide)) (f _ (by decide) (by decide) (by decide)) (f _ (by decide) (by decide) (by decide)) (f _ (by decide) (by decide) (by decide)), RmP_fr r4 ?_ (k _ (by decide) (by decide) (by decide) (by decide)) (k _ (by decide) (by decide) (by decide) (by decide)) (k _ (by decide) (by decide) (by decide) (by decide)) (k _ (by decide) (by decide) (by decide) (by decide)) (k _ (by decide) (by decide) (by decide) (by decide)) (k _ (by decide) (by decide) (by decide) (by decide)) (f _ (by decide) (by decide) (by decide)) (f _ (by decide) (by decide) (by decide)), RmU_fr r5 (k _ (by decide) (by decide) (by decide) (by decide)) (f _ (by decide) (by decide) (by decide)), RmF_fr r6 ?_ (k _ (by decide) (by decide) (by decide) (by decide))⟩
        · intro c' l' hc' hl'
          have a := r1 c' l' hc' hl'
          rw [f 1 (by decide) (by decide) (by decide), f 3 (by decide) (by decide) (by decide), f 13 (by decide) (by decide) (by decide), k 28 (by decide) (by decide) (by decide) (by decide), k 27 (by decide) (by decide) (by decide) (by decide), k 29 (by decide) (by decide) (by decide) (by decide)]
          by_cases e : c' = c
          · subst e
            have w := i4 l' (by omega) hl'
            have e2 : sPlace n sh A c' t 2 c' l' = sw sh l' t := by simp [sPlace, hl']
            have e4 : sPlace n sh A c' t 4 c' l' = if l' = t then 4 else 0 := by
              by_cases q : l' = t
              · simp [sPlace, q]
              · simp [sPlace, q]
                exact (q2.2 l' hl').1
            have hlt := sw_99 hs hn hl' ht
            rw [e2, e4, w.1, w.2.1, w.2.2, (q2.2 l' hl').2, zf_99, zf_n (by omega)]
            exact ⟨a.1, fun _ => ⟨rfl, rfl⟩, rfl, a.2.2.2.1, fun k' hk' => by rw [f _ (by omega) (by omega) (by omega)]; exact a.2.2.2.2 k' hk'⟩
          · have e2 : ∀ a', sPlace n sh A c t a' c' = A a' c' := fun a' => by
              funext j
              simp [sPlace, e]
            have hx : 12 * c' + l' < 12 * c ∨ 12 * c + n ≤ 12 * c' + l' := by omega
            rw [e2, e2, e2, kk 24 _ hx (by decide) (by decide), kk 25 _ hx (by decide) (by decide), kk 26 _ hx (by decide) (by decide)]
            exact ⟨a.1, a.2.1, a.2.2.1, a.2.2.2.1, fun k' hk' => by rw [f _ (by omega) (by omega) (by omega)]; exact a.2.2.2.2 k' hk'⟩
        · intro c' hc'
          have a := r2 c' hc'
          rw [k 31 (by decide) (by decide) (by decide) (by decide), k 32 (by decide) (by decide) (by decide) (by decide), k 33 (by decide) (by decide) (by decide) (by decide), f 14 (by decide) (by decide) (by decide), i2 30 (by decide), i2 23 (by decide), st_k (show 23 ≠ 30 by decide)]
          by_cases e : c' = c
          · subst e
            have e0 : sPlace n sh A c' t 5 c' 0 = t := by simp [sPlace]
            have e1 : sPlace n sh A c' t 5 c' 1 = A 5 c' 1 := by simp [sPlace]
            have e2 : sPlace n sh A c' t 5 c' 2 = A 5 c' 2 := by simp [sPlace]
            rw [e0, e1, e2, st_eq, st_eq, zf_n (by omega), if_neg (by omega)]
            exact ⟨rfl, a.2.1, a.2.2.1, rfl, a.2.2.2.2⟩
          · have e2 : sPlace n sh A c t 5 c' = A 5 c' := by
              funext j
              simp [sPlace, e]
            rw [e2, st_j e, st_j e, st_k (show 30 ≠ 23 by decide), st_k (show 30 ≠ 20 by decide), st_k (show 23 ≠ 20 by decide)]
            exact a
        · rw [i2 20 (by decide), st_k (by decide), st_k (by decide), st_j (by decide)]
        · rw [i2 20 (by decide), st_k (by decide), st_k (by decide), st_j (by decide)]
      · rw [i2 50 (by decide), st_k (by decide), st_k (by decide), st_k (by decide)]
      · rw [i2 20 (by decide), st_k (by decide), st_k (by decide), st_eq]
        rfl
  · refine AG_same hR hP 3 (by simp) (v := nI 0) (v' := nI 0) (fun M => ?_) (fun M hM => ?_) (fun _ => rfl)
    · simp +decide (disch := omega) only [f_LA_copyAt, k_rc hc, k_rl hR hn ht, k_isP hR hc h5, jn_0, jn_1, jn_2, jn_3, jn_4, jn_5, jn_6, jn_7, jn_8, jn_9, jn_10, jn_11, jn_12, jn_13, jn_14, jn_15, jn_16, jn_20, jn_21, jn_22, jn_23, jn_24, jn_25, jn_26, jn_27, jn_28, jn_29, jn_30, jn_31, jn_32, jn_33, jn_34, jn_35, jn_36, jn_37, jn_38, jn_39, jn_40, jn_41, jn_42, jn_43, jn_44, jn_50, js_0, js_1, js_2, js_3, js_4, js_5, js_6, js_7, js_8, js_9, js_10, js_11, js_12, js_13, js_14, js_15, js_16, js_20, js_21, js_22, js_23, js_24, js_25, js_26, js_27, js_28, js_29, js_30, js_31, js_32, js_33, js_34, js_35, js_36, js_37, js_38, js_39, js_40, js_41, js_42, js_43, js_44, js_50, bd_0, bd_1, bd_2, bd_3, let_e, nz_0, nz_1, nz_n0, nz_n1, ix_n, nl_0, nl_1, nl_2, nl_3, nl_4, nl_5, nl_6, nl_7, nl_8, nl_9, nl_10, nl_11, nl_12, nl_16, nl_40, nl_64, nl_200, nl_1000, nl_m, nl_m2, nar_0, nar_1, nI_cl, nI_E, nI_L, nI_T, nI_m, nI_m', nI_ng, nN_lt, nN_le, nI_add, pk_mul, nI_S, nI_R4, nI_R64, nI_32, st_eq, st_k, st_j, if_true, if_false, Nat.not_lt_zero, Nat.zero_le]
    · have b3 := (hM.2.1 c hc).2.2.2.1
      rw [if_neg h5] at b3
      simp +decide (disch := omega) only [f_Mo_copyAt, f_Mo_copyAt_b15, f_Mo_copyAt_b35, u, q_ip hM hn ht hc, q_ic hc, b3, q_r2, th1, jn_0, jn_1, jn_2, jn_3, jn_4, jn_5, jn_6, jn_7, jn_8, jn_9, jn_10, jn_11, jn_12, jn_13, jn_14, jn_15, jn_16, jn_20, jn_21, jn_22, jn_23, jn_24, jn_25, jn_26, jn_27, jn_28, jn_29, jn_30, jn_31, jn_32, jn_33, jn_34, jn_35, jn_36, jn_37, jn_38, jn_39, jn_40, jn_41, jn_42, jn_43, jn_44, jn_50, js_0, js_1, js_2, js_3, js_4, js_5, js_6, js_7, js_8, js_9, js_10, js_11, js_12, js_13, js_14, js_15, js_16, js_20, js_21, js_22, js_23, js_24, js_25, js_26, js_27, js_28, js_29, js_30, js_31, js_32, js_33, js_34, js_35, js_36, js_37, js_38, js_39, js_40, js_41, js_42, js_43, js_44, js_50, bd_0, bd_1, bd_2, bd_3, let_e, nz_0, nz_1, nz_n0, nz_n1, ix_n, nl_0, nl_1, nl_2, nl_3, nl_4, nl_5, nl_6, nl_7, nl_8, nl_9, nl_10, nl_11, nl_12, nl_16, nl_40, nl_64, nl_200, nl_1000, nl_m, nl_m2, nar_0, nar_1, nI_cl, nI_E, nI_L, nI_T, nI_m, nI_m', nI_ng, nN_lt, nN_le, nI_add, pk_mul, nI_S, nI_R4, nI_R64, nI_32, st_eq, st_k, st_j, if_true, if_false, Nat.not_lt_zero, Nat.zero_le]

/-! first letters once more -/
def cF (sh : Nat) (A : mm_A) (l j : Nat) : Bool := nbb sh l j && decide (A 6 (dr (pa3 sh) l j) 0 ≠ A 6 (dr (pa3 sh) l j) 1)
def sFA (sh l : Nat) : Nat → Nat → mm_A → mm_A
  | 0, _, A => A
  | m + 1, j, A => if cF sh A l j then sFA sh l m (j + 1) (sPF A (dr (pa3 sh) l j) l j) else sFA sh l m (j + 1) A
def sFN (sh l : Nat) : Nat → Nat → mm_A → Nat → Nat
  | 0, _, _, q => q
  | m + 1, j, A, q => if cF sh A l j then sFN sh l m (j + 1) (sPF A (dr (pa3 sh) l j) l j) (q + 1) else sFN sh l m (j + 1) A q
theorem k_nb {n sh : Nat} {C : mm_M} {A : mm_A} (h : Rp n sh C A) (hn : n ≤ 12) {l j : Nat} (hl : l < n) (hj : j < n) (M : mm_M) : f_Tr_areNeighbours n (jn C M) 0 (nI l) (nI j) = some (0, nI (if nbb sh l j then 1 else 0), jn C M) := by
  have h1 := h.2.2.2.2.2.2.2 l hl
  have h2 := h.2.2.2.2.2.2.2 j hj
  have e1 := pr3_eq (sh := sh) (fr := j) (to := l) (by omega) (by omega)
  have e2 := pr3_eq (sh := sh) (fr := l) (to := j) (by omega) (by omega)
  by_cases c1 : pr3 sh j = nI l
  · have e : nbb sh l j = true := (nbb_iff sh l j).mpr (Or.inr (e1.mp c1))
    rw [e]
    simp +decide (disch := omega) only [f_Tr_areNeighbours, f_Tr_areNeighbours_b23, f_Tr_areNeighbours_b18, f_Tr_isParent, f_Tr_isParent_b15, h2, c1, jn_0, jn_1, jn_2, jn_3, jn_4, jn_5, jn_6, jn_7, jn_8, jn_9, jn_10, jn_11, jn_12, jn_13, jn_14, jn_15, jn_16, jn_20, jn_21, jn_22, jn_23, jn_24, jn_25, jn_26, jn_27, jn_28, jn_29, jn_30, jn_31, jn_32, jn_33, jn_34, jn_35, jn_36, jn_37, jn_38, jn_39, jn_40, jn_41, jn_42, jn_43, jn_44, jn_50, js_0, js_1, js_2, js_3, js_4, js_5, js_6, js_7, js_8, js_9, js_10, js_11, js_12, js_13, js_14, js_15, js_16, js_20, js_21, js_22, js_23, js_24, js_25, js_26, js_27, js_28, js_29, js_30, js_31, js_32, js_33, js_34, js_35, js_36, js_37, js_38, js_39, js_40, js_41, js_42, js_43, js_44, js_50, bd_0, bd_1, bd_2, bd_3, let_e, nz_0, nz_1, nz_n0, nz_n1, ix_n, nl_0, nl_1, nl_2, nl_3, nl_4, nl_5, nl_6, nl_7, nl_8, nl_9, nl_10, nl_11, nl_12, nl_16, nl_40, nl_64, nl_200, nl_1000, nl_m, nl_m2, nar_0, nar_1, nI_cl, nI_E, nI_L, nI_T, nI_m, nI_m', nI_ng, nN_lt, nN_le, nI_add, pk_mul, nI_S, nI_R4, nI_R64, nI_32, st_eq, st_k, st_j, if_true, if_false, Nat.not_lt_zero, Nat.zero_le]
  · by_cases c2 : pr3 sh l = nI j
    · have e : nbb sh l j = true := (nbb_iff sh l j).mpr (Or.inl (e2.mp c2))
      rw [e]
      simp +decide (disch := omega) only [f_Tr_areNeighbours, f_Tr_areNeighbours_b23, f_Tr_areNeighbours_b18, f_Tr_isParent, f_Tr_isParent_b15, h1, h2, c1, c2, jn_0, jn_1, jn_2, jn_3, jn_4, jn_5, jn_6, jn_7, jn_8, jn_9, jn_10, jn_11, jn_12, jn_13, jn_14, jn_15, jn_16, jn_20, jn_21, jn_22, jn_23, jn_24, jn_25, jn_26, jn_27, jn_28, jn_29, jn_30, jn_31, jn_32, jn_33, jn_34, jn_35, jn_36, jn_37, jn_38, jn_39, jn_40, jn_41, jn_42, jn_43, jn_44, jn_50, js_0, js_1, js_2, js_3, js_4, js_5, js_6, js_7, js_8, js_9, js_10, js_11, js_12, js_13, js_14, js_15, js_16, js_20, js_21, js_22, js_23, js_24, js_25, js_26, js_27, js_28, js_29, js_30, js_31, js_32, js_33, js_34, js_35, js_36, js_37, js_38, js_39, js_40, js_41, js_42, js_43, js_44, js_50, bd_0, bd_1, bd_2, bd_3, let_e, nz_0, nz_1, nz_n0, nz_n1, ix_n, nl_0, nl_1, nl_2, nl_3, nl_4, nl_5, nl_6, nl_7, nl_8, nl_9, nl_10, nl_11, nl_12, nl_16, nl_40, nl_64, nl_200, nl_1000, nl_m, nl_m2, nar_0, nar_1, nI_cl, nI_E, nI_L, nI_T, nI_m, nI_m', nI_ng, nN_lt, nN_le, nI_add, pk_mul, nI_S, nI_R4, nI_R64, nI_32, st_eq, st_k, st_j, if_true, if_false, Nat.not_lt_zero, Nat.zero_le]
    · have e : nbb sh l j = false := by
        rcases q : nbb sh l j
        · rfl
        · exfalso
          rcases (nbb_iff sh l j).mp q with w | w
          · exact c2 (e2.mpr w)
          · exact c1 (e1.mpr w)
      rw [e]
      simp +decide (disch := omega) only [f_Tr_areNeighbours, f_Tr_areNeighbours_b23, f_Tr_areNeighbours_b18, f_Tr_isParent, f_Tr_isParent_b15, h1, h2, c1, c2, Bool.false_eq_true, jn_0, jn_1, jn_2, jn_3, jn_4, jn_5, jn_6, jn_7, jn_8, jn_9, jn_10, jn_11, jn_12, jn_13, jn_14, jn_15, jn_16, jn_20, jn_21, jn_22, jn_23, jn_24, jn_25, jn_26, jn_27, jn_28, jn_29, jn_30, jn_31, jn_32, jn_33, jn_34, jn_35, jn_36, jn_37, jn_38, jn_39, jn_40, jn_41, jn_42, jn_43, jn_44, jn_50, js_0, js_1, js_2, js_3, js_4, js_5, js_6, js_7, js_8, js_9, js_10, js_11, js_12, js_13, js_14, js_15, js_16, js_20, js_21, js_22, js_23, js_24, js_25, js_26, js_27, js_28, js_29, js_30, js_31, js_32, js_33, js_34, js_35, js_36, js_37, js_38, js_39, js_40, js_41, js_42, js_43, js_44, js_50, bd_0, bd_1, bd_2, bd_3, let_e, nz_0, nz_1, nz_n0, nz_n1, ix_n, nl_0, nl_1, nl_2, nl_3, nl_4, nl_5, nl_6, nl_7, nl_8, nl_9, nl_10, nl_11, nl_12, nl_16, nl_40, nl_64, nl_200, nl_1000, nl_m, nl_m2, nar_0, nar_1, nI_cl, nI_E, nI_L, nI_T, nI_m, nI_m', nI_ng, nN_lt, nN_le, nI_add, pk_mul, nI_S, nI_R4, nI_R64, nI_32, st_eq, st_k, st_j, if_true, if_false, Nat.not_lt_zero, Nat.zero_le]
theorem Pr_cF {n sh T : Nat} {A : mm_A} (h : Pr n sh T A) {l j : Nat} (hl : l < n) (hj : j < n) (hc : cF sh A l j = true) : nb (pa3 sh) l j ∧ A 6 (dr (pa3 sh) l j) 0 < A 6 (dr (pa3 sh) l j) 1 ∧ A 7 (dr (pa3 sh) l j) (A 6 (dr (pa3 sh) l j) 0) < 3 ∧ A 8 (dr (pa3 sh) l j) (A 6 (dr (pa3 sh) l j) 0) < n ∧ Pr n sh T (sPF A (dr (pa3 sh) l j) l j) := by
  unfold cF at hc
  simp at hc
  have a := h.2.2.1 _ (dr_lt (sh := sh) hl hj)
  have hnb := (nbb_iff sh l j).mp hc.1
  have hlt : A 6 (dr (pa3 sh) l j) 0 < A 6 (dr (pa3 sh) l j) 1 := by omega
  have b := a.2.2.2.2 _ (Nat.le_refl _) hlt
  exact ⟨hnb, hlt, b.1, b.2.1, Pr_PF h hl hj hnb hlt⟩
theorem k_fl {n sh T : Nat} (hn : n ≤ 12) (hT : T ≤ 1000000) {l : Nat} (hl : l < n) : ∀ (k m j q : Nat) (A : mm_A) (C : mm_M), j + m = n → m < k → q ≤ j → Rp n sh C A → Pr n sh T A → Pr n sh T (sFA sh l m j A) ∧ CR n sh C (fun g => f_Ma_repeatFirstLetters_l4 n k g 0 (nI l) (nI q) (nI j)) 0 (nI (sFN sh l m j A q)) (sFA sh l m j A) := by
  intro k
  induction k with
  | zero =>
    intro m j q A C _ h2
    omega
  | succ k ih =>
    intro m j q A C h1 h2 hq hR hP
    have h12 := hR.2.2.2.2.2.2.1
    cases m with
    | zero =>
      refine ⟨hP, C, fun M => ?_, hR⟩
      show f_Ma_repeatFirstLetters_l4 n (k + 1) (jn C M) 0 (nI l) (nI q) (nI j) = _
      rw [f_Ma_repeatFirstLetters_l4]
      have e : n ≤ j := by omega
      simp +decide (disch := omega) only [h12, e, sFN, jn_0, jn_1, jn_2, jn_3, jn_4, jn_5, jn_6, jn_7, jn_8, jn_9, jn_10, jn_11, jn_12, jn_13, jn_14, jn_15, jn_16, jn_20, jn_21, jn_22, jn_23, jn_24, jn_25, jn_26, jn_27, jn_28, jn_29, jn_30, jn_31, jn_32, jn_33, jn_34, jn_35, jn_36, jn_37, jn_38, jn_39, jn_40, jn_41, jn_42, jn_43, jn_44, jn_50, js_0, js_1, js_2, js_3, js_4, js_5, js_6, js_7, js_8, js_9, js_10, js_11, js_12, js_13, js_14, js_15, js_16, js_20, js_21, js_22, js_23, js_24, js_25, js_26, js_27, js_28, js_29, js_30, js_31, js_32, js_33, js_34, js_35, js_36, js_37, js_38, js_39, js_40, js_41, js_42, js_43, js_44, js_50, bd_0, bd_1, bd_2, bd_3, let_e, nz_0, nz_1, nz_n0, nz_n1, ix_n, nl_0, nl_1, nl_2, nl_3, nl_4, nl_5, nl_6, nl_7, nl_8, nl_9, nl_10, nl_11, nl_12, nl_16, nl_40, nl_64, nl_200, nl_1000, nl_m, nl_m2, nar_0, nar_1, nI_cl, nI_E, nI_L, nI_T, nI_m, nI_m', nI_ng, nN_lt, nN_le, nI_add, pk_mul, nI_S, nI_R4, nI_R64, nI_32, st_eq, st_k, st_j, if_true, if_false, Nat.not_lt_zero, Nat.zero_le]
    | succ m =>
      have hj : j < n := by omega
      have e : ¬ n ≤ j := by omega
      have hnbr := k_nb hR hn hl hj
      have hln := k_line hR hn hl hj
      have hd := dr_lt (sh := sh) hl hj
      have z := hP.2.2.1 _ hd
      have hem := k_empty hR hd (by omega) (by omega)
      rcases c : cF sh A l j
      · obtain ⟨i1, C1, i2, i3⟩ := ih m (j + 1) q A C (by omega) (by omega) (by omega) hR hP
        have s1 : sFA sh l (m + 1) j A = sFA sh l m (j + 1) A := by
          show (if cF sh A l j then _ else _) = _
          rw [c]
          rfl
        have s2 : sFN sh l (m + 1) j A q = sFN sh l m (j + 1) A q := by
          show (if cF sh A l j then _ else _) = _
          rw [c]
          rfl
        rw [s1, s2]
        refine ⟨i1, C1, fun M => ?_, i3⟩
        have i2 := i2 M
        have hnbr := hnbr M
        have hem := hem M
        show f_Ma_repeatFirstLetters_l4 n (k + 1) (jn C M) 0 (nI l) (nI q) (nI j) = _
        rw [f_Ma_repeatFirstLetters_l4]
        rcases w : nbb sh l j
        · rw [w] at hnbr
          simp +decide (disch := omega) only [h12, e, hnbr, Bool.false_eq_true, jn_0, jn_1, jn_2, jn_3, jn_4, jn_5, jn_6, jn_7, jn_8, jn_9, jn_10, jn_11, jn_12, jn_13, jn_14, jn_15, jn_16, jn_20, jn_21, jn_22, jn_23, jn_24, jn_25, jn_26, jn_27, jn_28, jn_29, jn_30, jn_31, jn_32, jn_33, jn_34, jn_35, jn_36, jn_37, jn_38, jn_39, jn_40, jn_41, jn_42, jn_43, jn_44, jn_50, js_0, js_1, js_2, js_3, js_4, js_5, js_6, js_7, js_8, js_9, js_10, js_11, js_12, js_13, js_14, js_15, js_16, js_20, js_21, js_22, js_23, js_24, js_25, js_26, js_27, js_28, js_29, js_30, js_31, js_32, js_33, js_34, js_35, js_36, js_37, js_38, js_39, js_40, js_41, js_42, js_43, js_44, js_50, bd_0, bd_1, bd_2, bd_3, let_e, nz_0, nz_1, nz_n0, nz_n1, ix_n, nl_0, nl_1, nl_2, nl_3, nl_4, nl_5, nl_6, nl_7, nl_8, nl_9, nl_10, nl_11, nl_12, nl_16, nl_40, nl_64, nl_200, nl_1000, nl_m, nl_m2, nar_0, nar_1, nI_cl, nI_E, nI_L, nI_T, nI_m, nI_m', nI_ng, nN_lt, nN_le, nI_add, pk_mul, nI_S, nI_R4, nI_R64, nI_32, st_eq, st_k, st_j, if_true, if_false, Nat.not_lt_zero, Nat.zero_le]
          exact i2
        · rw [w] at hnbr
          have w2 : A 6 (dr (pa3 sh) l j) 0 = A 6 (dr (pa3 sh) l j) 1 := by
            unfold cF at c
            rw [w] at c
            simpa using c
          rw [if_pos w2] at hem
          simp +decide (disch := omega) only [h12, e, hnbr, hln, hem, jn_0, jn_1, jn_2, jn_3, jn_4, jn_5, jn_6, jn_7, jn_8, jn_9, jn_10, jn_11, jn_12, jn_13, jn_14, jn_15, jn_16, jn_20, jn_21, jn_22, jn_23, jn_24, jn_25, jn_26, jn_27, jn_28, jn_29, jn_30, jn_31, jn_32, jn_33, jn_34, jn_35, jn_36, jn_37, jn_38, jn_39, jn_40, jn_41, jn_42, jn_43, jn_44, jn_50, js_0, js_1, js_2, js_3, js_4, js_5, js_6, js_7, js_8, js_9, js_10, js_11, js_12, js_13, js_14, js_15, js_16, js_20, js_21, js_22, js_23, js_24, js_25, js_26, js_27, js_28, js_29, js_30, js_31, js_32, js_33, js_34, js_35, js_36, js_37, js_38, js_39, js_40, js_41, js_42, js_43, js_44, js_50, bd_0, bd_1, bd_2, bd_3, let_e, nz_0, nz_1, nz_n0, nz_n1, ix_n, nl_0, nl_1, nl_2, nl_3, nl_4, nl_5, nl_6, nl_7, nl_8, nl_9, nl_10, nl_11, nl_12, nl_16, nl_40, nl_64, nl_200, nl_1000, nl_m, nl_m2, nar_0, nar_1, nI_cl, nI_E, nI_L, nI_T, nI_m, nI_m', nI_ng, nN_lt, nN_le, nI_add, pk_mul, nI_S, nI_R4, nI_R64, nI_32, st_eq, st_k, st_j, if_true, if_false, Nat.not_lt_zero, Nat.zero_le]
          exact i2
      · obtain ⟨b1, b2, b3, b4, b5⟩ := Pr_cF hP hl hj c
        have w : nbb sh l j = true := (nbb_iff sh l j).mpr b1
        obtain ⟨C0, f0, p0⟩ := k_pf hR hP.2.2.2.1.1 hd b2 (by omega) (by omega) (by omega) l j
        obtain ⟨i1, C1, i2, i3⟩ := ih m (j + 1) (q + 1) _ C0 (by omega) (by omega) (by omega) p0 b5
        have s1 : sFA sh l (m + 1) j A = sFA sh l m (j + 1) (sPF A (dr (pa3 sh) l j) l j) := by
          show (if cF sh A l j then _ else _) = _
          rw [c]
          rfl
        have s2 : sFN sh l (m + 1) j A q = sFN sh l m (j + 1) (sPF A (dr (pa3 sh) l j) l j) (q + 1) := by
          show (if cF sh A l j then _ else _) = _
          rw [c]
          rfl
        rw [s1, s2]
        refine ⟨i1, C1, fun M => ?_, i3⟩
        have i2 := i2 M
        have hnbr := hnbr M
        have hem := hem M
        rw [w] at hnbr
        rw [if_neg (by omega)] at hem
        show f_Ma_repeatFirstLetters_l4 n (k + 1) (jn C M) 0 (nI l) (nI q) (nI j) = _
        rw [f_Ma_repeatFirstLetters_l4]
        simp +decide (disch := omega) only [h12, e, hnbr, hln, hem, f0, jn_0, jn_1, jn_2, jn_3, jn_4, jn_5, jn_6, jn_7, jn_8, jn_9, jn_10, jn_11, jn_12, jn_13, jn_14, jn_15, jn_16, jn_20, jn_21, jn_22, jn_23, jn_24, jn_25, jn_26, jn_27, jn_28, jn_29, jn_30, jn_31, jn_32, jn_33, jn_34, jn_35, jn_36, jn_37, jn_38, jn_39, jn_40, jn_41, jn_42, jn_43, jn_44, jn_50, js_0, js_1, js_2, js_3, js_4, js_5, js_6, js_7, js_8, js_9, js_10, js_11, js_12, js_13, js_14, js_15, js_16, js_20, js_21, js_22, js_23, js_24, js_25, js_26, js_27, js_28, js_29, js_30, js_31, js_32, js_33, js_34, js_35, js_36, js_37, js_38, js_39, js_40, js_41, js_42, js_43, js_44, js_50, bd_0, bd_1, bd_2, bd_3, let_e, nz_0, nz_1, nz_n0, nz_n1, ix_n, nl_0, nl_1, nl_2, nl_3, nl_4, nl_5, nl_6, nl_7, nl_8, nl_9, nl_10, nl_11, nl_12, nl_16, nl_40, nl_64, nl_200, nl_1000, nl_m, nl_m2, nar_0, nar_1, nI_cl, nI_E, nI_L, nI_T, nI_m, nI_m', nI_ng, nN_lt, nN_le, nI_add, pk_mul, nI_S, nI_R4, nI_R64, nI_32, st_eq, st_k, st_j, if_true, if_false, Nat.not_lt_zero, Nat.zero_le]
        exact i2
theorem q_fl {n sh T : Nat} (hn : n ≤ 12) (hT : T ≤ 1000000) {l : Nat} (hl : l < n) : ∀ (k m j q : Nat) (A : mm_A) (M : mm_M), j + m = n → m < k → q ≤ j → Rm n sh M A → Pr n sh T A → MR n sh M (fun g => f_Mo_sendFirsts_l4 n k g 0 (nI l) (nI q) (nI j)) (nI (sFN sh l m j A q)) (sFA sh l m j A) := by
  intro k
  induction k with
  | zero =>
    intro m j q A M _ h2
    omega
  | succ k ih =>
    intro m j q A M h1 h2 hq hR hP
    have h12 := hR.2.2.2.2.2.1
    cases m with
    | zero =>
      refine ⟨M, fun C => ?_, hR, rfl, rfl⟩
      show f_Mo_sendFirsts_l4 n (k + 1) (jn C M) 0 (nI l) (nI q) (nI j) = _
      rw [f_Mo_sendFirsts_l4]
      have e : n ≤ j := by omega
      simp +decide (disch := omega) only [h12, e, sFN, jn_0, jn_1, jn_2, jn_3, jn_4, jn_5, jn_6, jn_7, jn_8, jn_9, jn_10, jn_11, jn_12, jn_13, jn_14, jn_15, jn_16, jn_20, jn_21, jn_22, jn_23, jn_24, jn_25, jn_26, jn_27, jn_28, jn_29, jn_30, jn_31, jn_32, jn_33, jn_34, jn_35, jn_36, jn_37, jn_38, jn_39, jn_40, jn_41, jn_42, jn_43, jn_44, jn_50, js_0, js_1, js_2, js_3, js_4, js_5, js_6, js_7, js_8, js_9, js_10, js_11, js_12, js_13, js_14, js_15, js_16, js_20, js_21, js_22, js_23, js_24, js_25, js_26, js_27, js_28, js_29, js_30, js_31, js_32, js_33, js_34, js_35, js_36, js_37, js_38, js_39, js_40, js_41, js_42, js_43, js_44, js_50, bd_0, bd_1, bd_2, bd_3, let_e, nz_0, nz_1, nz_n0, nz_n1, ix_n, nl_0, nl_1, nl_2, nl_3, nl_4, nl_5, nl_6, nl_7, nl_8, nl_9, nl_10, nl_11, nl_12, nl_16, nl_40, nl_64, nl_200, nl_1000, nl_m, nl_m2, nar_0, nar_1, nI_cl, nI_E, nI_L, nI_T, nI_m, nI_m', nI_ng, nN_lt, nN_le, nI_add, pk_mul, nI_S, nI_R4, nI_R64, nI_32, st_eq, st_k, st_j, if_true, if_false, Nat.not_lt_zero, Nat.zero_le]
    | succ m =>
      have hj : j < n := by omega
      have e : ¬ n ≤ j := by omega
      have hl1 := hR.2.2.2.2.2.2 l (by omega)
      have hj1 := hR.2.2.2.2.2.2 j (by omega)
      have p1 := pr3_eq (sh := sh) (fr := j) (to := l) (by omega) (by omega)
      have p2 := pr3_eq (sh := sh) (fr := l) (to := j) (by omega) (by omega)
      have hln := q_dir hR hn hl hj
      have hd := dr_lt (sh := sh) hl hj
      have z := hP.2.2.1 _ hd
      have li := hR.2.2.1.1 _ hd
      rcases c : cF sh A l j
      · obtain ⟨M1, i2, i3, i4, i5⟩ := ih m (j + 1) q A M (by omega) (by omega) (by omega) hR hP
        have s1 : sFA sh l (m + 1) j A = sFA sh l m (j + 1) A := by
          show (if cF sh A l j then _ else _) = _
          rw [c]
          rfl
        have s2 : sFN sh l (m + 1) j A q = sFN sh l m (j + 1) A q := by
          show (if cF sh A l j then _ else _) = _
          rw [c]
          rfl
        rw [s1, s2]
        refine ⟨M1, fun C => ?_, i3, i4, i5⟩
        have i2 := i2 C
        show f_Mo_sendFirsts_l4 n (k + 1) (jn C M) 0 (nI l) (nI q) (nI j) = _
        rw [f_Mo_sendFirsts_l4]
        by_cases jl : j = l
        · have e' : ¬ n ≤ l := by omega
          simp +decide (disch := omega) only [h12, e', jl, jn_0, jn_1, jn_2, jn_3, jn_4, jn_5, jn_6, jn_7, jn_8, jn_9, jn_10, jn_11, jn_12, jn_13, jn_14, jn_15, jn_16, jn_20, jn_21, jn_22, jn_23, jn_24, jn_25, jn_26, jn_27, jn_28, jn_29, jn_30, jn_31, jn_32, jn_33, jn_34, jn_35, jn_36, jn_37, jn_38, jn_39, jn_40, jn_41, jn_42, jn_43, jn_44, jn_50, js_0, js_1, js_2, js_3, js_4, js_5, js_6, js_7, js_8, js_9, js_10, js_11, js_12, js_13, js_14, js_15, js_16, js_20, js_21, js_22, js_23, js_24, js_25, js_26, js_27, js_28, js_29, js_30, js_31, js_32, js_33, js_34, js_35, js_36, js_37, js_38, js_39, js_40, js_41, js_42, js_43, js_44, js_50, bd_0, bd_1, bd_2, bd_3, let_e, nz_0, nz_1, nz_n0, nz_n1, ix_n, nl_0, nl_1, nl_2, nl_3, nl_4, nl_5, nl_6, nl_7, nl_8, nl_9, nl_10, nl_11, nl_12, nl_16, nl_40, nl_64, nl_200, nl_1000, nl_m, nl_m2, nar_0, nar_1, nI_cl, nI_E, nI_L, nI_T, nI_m, nI_m', nI_ng, nN_lt, nN_le, nI_add, pk_mul, nI_S, nI_R4, nI_R64, nI_32, st_eq, st_k, st_j, if_true, if_false, Nat.not_lt_zero, Nat.zero_le]
          rw [jl] at i2
          exact i2
        · have hle : ∀ w : nbb sh l j = true, A 6 (dr (pa3 sh) l j) 1 ≤ A 6 (dr (pa3 sh) l j) 0 := fun w => by
            unfold cF at c
            rw [w] at c
            simp at c
            omega
          by_cases c2 : pr3 sh l = nI j
          · have hle := hle ((nbb_iff sh l j).mpr (Or.inl (p2.mp c2)))
            simp +decide (disch := omega) only [h12, e, jl, hl1, c2, hln, li.1, li.2.1, hle, jn_0, jn_1, jn_2, jn_3, jn_4, jn_5, jn_6, jn_7, jn_8, jn_9, jn_10, jn_11, jn_12, jn_13, jn_14, jn_15, jn_16, jn_20, jn_21, jn_22, jn_23, jn_24, jn_25, jn_26, jn_27, jn_28, jn_29, jn_30, jn_31, jn_32, jn_33, jn_34, jn_35, jn_36, jn_37, jn_38, jn_39, jn_40, jn_41, jn_42, jn_43, jn_44, jn_50, js_0, js_1, js_2, js_3, js_4, js_5, js_6, js_7, js_8, js_9, js_10, js_11, js_12, js_13, js_14, js_15, js_16, js_20, js_21, js_22, js_23, js_24, js_25, js_26, js_27, js_28, js_29, js_30, js_31, js_32, js_33, js_34, js_35, js_36, js_37, js_38, js_39, js_40, js_41, js_42, js_43, js_44, js_50, bd_0, bd_1, bd_2, bd_3, let_e, nz_0, nz_1, nz_n0, nz_n1, ix_n, nl_0, nl_1, nl_2, nl_3, nl_4, nl_5, nl_6, nl_7, nl_8, nl_9, nl_10, nl_11, nl_12, nl_16, nl_40, nl_64, nl_200, nl_1000, nl_m, nl_m2, nar_0, nar_1, nI_cl, nI_E, nI_L, nI_T, nI_m, nI_m', nI_ng, nN_lt, nN_le, nI_add, pk_mul, nI_S, nI_R4, nI_R64, nI_32, st_eq, st_k, st_j, if_true, if_false, Nat.not_lt_zero, Nat.zero_le]
            exact i2
          · by_cases c1 : pr3 sh j = nI l
            · have hle := hle ((nbb_iff sh l j).mpr (Or.inr (p1.mp c1)))
              simp +decide (disch := omega) only [h12, e, jl, hl1, hj1, c2, c1, hln, li.1, li.2.1, hle, jn_0, jn_1, jn_2, jn_3, jn_4, jn_5, jn_6, jn_7, jn_8, jn_9, jn_10, jn_11, jn_12, jn_13, jn_14, jn_15, jn_16, jn_20, jn_21, jn_22, jn_23, jn_24, jn_25, jn_26, jn_27, jn_28, jn_29, jn_30, jn_31, jn_32, jn_33, jn_34, jn_35, jn_36, jn_37, jn_38, jn_39, jn_40, jn_41, jn_42, jn_43, jn_44, jn_50, js_0, js_1, js_2, js_3, js_4, js_5, js_6, js_7, js_8, js_9, js_10, js_11, js_12, js_13, js_14, js_15, js_16, js_20, js_21, js_22, js_23, js_24, js_25, js_26, js_27, js_28, js_29, js_30, js_31, js_32, js_33, js_34, js_35, js_36, js_37, js_38, js_39, js_40, js_41, js_42, js_43, js_44, js_50, bd_0, bd_1, bd_2, bd_3, let_e, nz_0, nz_1, nz_n0, nz_n1, ix_n, nl_0, nl_1, nl_2, nl_3, nl_4, nl_5, nl_6, nl_7, nl_8, nl_9, nl_10, nl_11, nl_12, nl_16, nl_40, nl_64, nl_200, nl_1000, nl_m, nl_m2, nar_0, nar_1, nI_cl, nI_E, nI_L, nI_T, nI_m, nI_m', nI_ng, nN_lt, nN_le, nI_add, pk_mul, nI_S, nI_R4, nI_R64, nI_32, st_eq, st_k, st_j, if_true, if_false, Nat.not_lt_zero, Nat.zero_le]
              exact i2
            · simp +decide (disch := omega) only [h12, e, jl, hl1, hj1, c2, c1, jn_0, jn_1, jn_2, jn_3, jn_4, jn_5, jn_6, jn_7, jn_8, jn_9, jn_10, jn_11, jn_12, jn_13, jn_14, jn_15, jn_16, jn_20, jn_21, jn_22, jn_23, jn_24, jn_25, jn_26, jn_27, jn_28, jn_29, jn_30, jn_31, jn_32, jn_33, jn_34, jn_35, jn_36, jn_37, jn_38, jn_39, jn_40, jn_41, jn_42, jn_43, jn_44, jn_50, js_0, js_1, js_2, js_3, js_4, js_5, js_6, js_7, js_8, js_9, js_10, js_11, js_12, js_13, js_14, js_15, js_16, js_20, js_21, js_22, js_23, js_24, js_25, js_26, js_27, js_28, js_29, js_30, js_31, js_32, js_33, js_34, js_35, js_36, js_37, js_38, js_39, js_40, js_41, js_42, js_43, js_44, js_50, bd_0, bd_1, bd_2, bd_3, let_e, nz_0, nz_1, nz_n0, nz_n1, ix_n, nl_0, nl_1, nl_2, nl_3, nl_4, nl_5, nl_6, nl_7, nl_8, nl_9, nl_10, nl_11, nl_12, nl_16, nl_40, nl_64, nl_200, nl_1000, nl_m, nl_m2, nar_0, nar_1, nI_cl, nI_E, nI_L, nI_T, nI_m, nI_m', nI_ng, nN_lt, nN_le, nI_add, pk_mul, nI_S, nI_R4, nI_R64, nI_32, st_eq, st_k, st_j, if_true, if_false, Nat.not_lt_zero, Nat.zero_le]
              exact i2
      · obtain ⟨b1, b2, b3, b4, b5⟩ := Pr_cF hP hl hj c
        obtain ⟨M0, f0, p0, p0a, p0b⟩ := q_pf hR hn hP.2.2.2.1.1 hl hj b2 (by omega) (by omega) (by omega)
        obtain ⟨M1, i2, i3, i4, i5⟩ := ih m (j + 1) (q + 1) _ M0 (by omega) (by omega) (by omega) p0 b5
        have s1 : sFA sh l (m + 1) j A = sFA sh l m (j + 1) (sPF A (dr (pa3 sh) l j) l j) := by
          show (if cF sh A l j then _ else _) = _
          rw [c]
          rfl
        have s2 : sFN sh l (m + 1) j A q = sFN sh l m (j + 1) (sPF A (dr (pa3 sh) l j) l j) (q + 1) := by
          show (if cF sh A l j then _ else _) = _
          rw [c]
          rfl
        rw [s1, s2]
        refine ⟨M1, fun C => ?_, i3, by rw [i4, p0a], by rw [i5, p0b]⟩
        have i2 := i2 C
        have hle : ¬ A 6 (dr (pa3 sh) l j) 1 ≤ A 6 (dr (pa3 sh) l j) 0 := by omega
        have jl : ¬ j = l := fun w => by
          have := dr_up (n := n) (pa3_lt sh) hl hj b1
          omega
        show f_Mo_sendFirsts_l4 n (k + 1) (jn C M) 0 (nI l) (nI q) (nI j) = _
        rw [f_Mo_sendFirsts_l4]
        by_cases c2 : pr3 sh l = nI j
        · simp +decide (disch := omega) only [h12, e, jl, hl1, c2, hln, li.1, li.2.1, hle, f0, jn_0, jn_1, jn_2, jn_3, jn_4, jn_5, jn_6, jn_7, jn_8, jn_9, jn_10, jn_11, jn_12, jn_13, jn_14, jn_15, jn_16, jn_20, jn_21, jn_22, jn_23, jn_24, jn_25, jn_26, jn_27, jn_28, jn_29, jn_30, jn_31, jn_32, jn_33, jn_34, jn_35, jn_36, jn_37, jn_38, jn_39, jn_40, jn_41, jn_42, jn_43, jn_44, jn_50, js_0, js_1, js_2, js_3, js_4, js_5, js_6, js_7, js_8, js_9, js_10, js_11, js_12, js_13, js_14, js_15, js_16, js_20, js_21, js_22, js_23, js_24, js_25, js_26, js_27, js_28, js_29, js_30, js_31, js_32, js_33, js_34, js_35, js_36, js_37, js_38, js_39, js_40, js_41, js_42, js_43, js_44, js_50, bd_0, bd_1, bd_2, bd_3, let_e, nz_0, nz_1, nz_n0, nz_n1, ix_n, nl_0, nl_1, nl_2, nl_3, nl_4, nl_5, nl_6, nl_7, nl_8, nl_9, nl_10, nl_11, nl_12, nl_16, nl_40, nl_64, nl_200, nl_1000, nl_m, nl_m2, nar_0, nar_1, nI_cl, nI_E, nI_L, nI_T, nI_m, nI_m', nI_ng, nN_lt, nN_le, nI_add, pk_mul, nI_S, nI_R4, nI_R64, nI_32, st_eq, st_k, st_j, if_true, if_false, Nat.not_lt_zero, Nat.zero_le]
          exact i2
        · have c1 : pr3 sh j = nI l := by
            rcases b1 with w | w
            · exact absurd (p2.mpr w) c2
            · exact p1.mpr w
          simp +decide (disch := omega) only [h12, e, jl, hl1, hj1, c2, c1, hln, li.1, li.2.1, hle, f0, jn_0, jn_1, jn_2, jn_3, jn_4, jn_5, jn_6, jn_7, jn_8, jn_9, jn_10, jn_11, jn_12, jn_13, jn_14, jn_15, jn_16, jn_20, jn_21, jn_22, jn_23, jn_24, jn_25, jn_26, jn_27, jn_28, jn_29, jn_30, jn_31, jn_32, jn_33, jn_34, jn_35, jn_36, jn_37, jn_38, jn_39, jn_40, jn_41, jn_42, jn_43, jn_44, jn_50, js_0, js_1, js_2, js_3, js_4, js_5, js_6, js_7, js_8, js_9, js_10, js_11, js_12, js_13, js_14, js_15, js_16, js_20, js_21, js_22, js_23, js_24, js_25, js_26, js_27, js_28, js_29, js_30, js_31, js_32, js_33, js_34, js_35, js_36, js_37, js_38, js_39, js_40, js_41, js_42, js_43, js_44, js_50, bd_0, bd_1, bd_2, bd_3, let_e, nz_0, nz_1, nz_n0, nz_n1, ix_n, nl_0, nl_1, nl_2, nl_3, nl_4, nl_5, nl_6, nl_7, nl_8, nl_9, nl_10, nl_11, nl_12, nl_16, nl_40, nl_64, nl_200, nl_1000, nl_m, nl_m2, nar_0, nar_1, nI_cl, nI_E, nI_L, nI_T, nI_m, nI_m', nI_ng, nN_lt, nN_le, nI_add, pk_mul, nI_S, nI_R4, nI_R64, nI_32, st_eq, st_k, st_j, if_true, if_false, Nat.not_lt_zero, Nat.zero_le]
          exact i2
theorem ag_sendAll {n sh T : Nat} {A : mm_A} {C : mm_M} (hn : n ≤ 12) (hT : T ≤ 1000000) (hR : Rp n sh C A) (hP : Pr n sh T A) (x : Int32) : AG n sh T A C (fun g => f_LA_sendAll n g 0 x) (fun g => f_Mo_sendAll n g 0 x) [0, 1, 3] th1 := by
  rcases tri n (by omega) x with hb | ⟨l, hl, rfl⟩
  · refine AG_same hR hP 1 (by simp) (v := nI 0) (v' := nI 0) (fun M => ?_) (fun M hM => ?_) (fun _ => rfl)
    · simp +decide (disch := omega) only [f_LA_sendAll, k_rlb hR hb, jn_0, jn_1, jn_2, jn_3, jn_4, jn_5, jn_6, jn_7, jn_8, jn_9, jn_10, jn_11, jn_12, jn_13, jn_14, jn_15, jn_16, jn_20, jn_21, jn_22, jn_23, jn_24, jn_25, jn_26, jn_27, jn_28, jn_29, jn_30, jn_31, jn_32, jn_33, jn_34, jn_35, jn_36, jn_37, jn_38, jn_39, jn_40, jn_41, jn_42, jn_43, jn_44, jn_50, js_0, js_1, js_2, js_3, js_4, js_5, js_6, js_7, js_8, js_9, js_10, js_11, js_12, js_13, js_14, js_15, js_16, js_20, js_21, js_22, js_23, js_24, js_25, js_26, js_27, js_28, js_29, js_30, js_31, js_32, js_33, js_34, js_35, js_36, js_37, js_38, js_39, js_40, js_41, js_42, js_43, js_44, js_50, bd_0, bd_1, bd_2, bd_3, let_e, nz_0, nz_1, nz_n0, nz_n1, ix_n, nl_0, nl_1, nl_2, nl_3, nl_4, nl_5, nl_6, nl_7, nl_8, nl_9, nl_10, nl_11, nl_12, nl_16, nl_40, nl_64, nl_200, nl_1000, nl_m, nl_m2, nar_0, nar_1, nI_cl, nI_E, nI_L, nI_T, nI_m, nI_m', nI_ng, nN_lt, nN_le, nI_add, pk_mul, nI_S, nI_R4, nI_R64, nI_32, st_eq, st_k, st_j, if_true, if_false, Nat.not_lt_zero, Nat.zero_le]
    · simp +decide (disch := omega) only [f_Mo_sendAll_b50, f_Mo_sendAll_b34, f_Mo_sendAll_b33, f_Mo_sendAll_b13, f_Mo_sendAll, q_ilb hM hb, q_r1, th1, jn_0, jn_1, jn_2, jn_3, jn_4, jn_5, jn_6, jn_7, jn_8, jn_9, jn_10, jn_11, jn_12, jn_13, jn_14, jn_15, jn_16, jn_20, jn_21, jn_22, jn_23, jn_24, jn_25, jn_26, jn_27, jn_28, jn_29, jn_30, jn_31, jn_32, jn_33, jn_34, jn_35, jn_36, jn_37, jn_38, jn_39, jn_40, jn_41, jn_42, jn_43, jn_44, jn_50, js_0, js_1, js_2, js_3, js_4, js_5, js_6, js_7, js_8, js_9, js_10, js_11, js_12, js_13, js_14, js_15, js_16, js_20, js_21, js_22, js_23, js_24, js_25, js_26, js_27, js_28, js_29, js_30, js_31, js_32, js_33, js_34, js_35, js_36, js_37, js_38, js_39, js_40, js_41, js_42, js_43, js_44, js_50, bd_0, bd_1, bd_2, bd_3, let_e, nz_0, nz_1, nz_n0, nz_n1, ix_n, nl_0, nl_1, nl_2, nl_3, nl_4, nl_5, nl_6, nl_7, nl_8, nl_9, nl_10, nl_11, nl_12, nl_16, nl_40, nl_64, nl_200, nl_1000, nl_m, nl_m2, nar_0, nar_1, nI_cl, nI_E, nI_L, nI_T, nI_m, nI_m', nI_ng, nN_lt, nN_le, nI_add, pk_mul, nI_S, nI_R4, nI_R64, nI_32, st_eq, st_k, st_j, if_true, if_false, Nat.not_lt_zero, Nat.zero_le]
  by_cases c : A 11 l 0 = 1
  · refine AG_same hR hP 3 (by simp) (v := nI 0) (v' := nI 0) (fun M => ?_) (fun M hM => ?_) (fun _ => rfl)
    · simp +decide (disch := omega) only [f_LA_sendAll, k_rl hR hn hl, k_upb hR hn hl c, jn_0, jn_1, jn_2, jn_3, jn_4, jn_5, jn_6, jn_7, jn_8, jn_9, jn_10, jn_11, jn_12, jn_13, jn_14, jn_15, jn_16, jn_20, jn_21, jn_22, jn_23, jn_24, jn_25, jn_26, jn_27, jn_28, jn_29, jn_30, jn_31, jn_32, jn_33, jn_34, jn_35, jn_36, jn_37, jn_38, jn_39, jn_40, jn_41, jn_42, jn_43, jn_44, jn_50, js_0, js_1, js_2, js_3, js_4, js_5, js_6, js_7, js_8, js_9, js_10, js_11, js_12, js_13, js_14, js_15, js_16, js_20, js_21, js_22, js_23, js_24, js_25, js_26, js_27, js_28, js_29, js_30, js_31, js_32, js_33, js_34, js_35, js_36, js_37, js_38, js_39, js_40, js_41, js_42, js_43, js_44, js_50, bd_0, bd_1, bd_2, bd_3, let_e, nz_0, nz_1, nz_n0, nz_n1, ix_n, nl_0, nl_1, nl_2, nl_3, nl_4, nl_5, nl_6, nl_7, nl_8, nl_9, nl_10, nl_11, nl_12, nl_16, nl_40, nl_64, nl_200, nl_1000, nl_m, nl_m2, nar_0, nar_1, nI_cl, nI_E, nI_L, nI_T, nI_m, nI_m', nI_ng, nN_lt, nN_le, nI_add, pk_mul, nI_S, nI_R4, nI_R64, nI_32, st_eq, st_k, st_j, if_true, if_false, Nat.not_lt_zero, Nat.zero_le]
    · have b := hM.2.2.2.2.1 l hl
      simp +decide (disch := omega) only [f_Mo_sendAll_b50, f_Mo_sendAll_b34, f_Mo_sendAll_b33, f_Mo_sendAll_b13, f_Mo_sendAll, q_il hM hn hl, b, c, q_r2, th1, jn_0, jn_1, jn_2, jn_3, jn_4, jn_5, jn_6, jn_7, jn_8, jn_9, jn_10, jn_11, jn_12, jn_13, jn_14, jn_15, jn_16, jn_20, jn_21, jn_22, jn_23, jn_24, jn_25, jn_26, jn_27, jn_28, jn_29, jn_30, jn_31, jn_32, jn_33, jn_34, jn_35, jn_36, jn_37, jn_38, jn_39, jn_40, jn_41, jn_42, jn_43, jn_44, jn_50, js_0, js_1, js_2, js_3, js_4, js_5, js_6, js_7, js_8, js_9, js_10, js_11, js_12, js_13, js_14, js_15, js_16, js_20, js_21, js_22, js_23, js_24, js_25, js_26, js_27, js_28, js_29, js_30, js_31, js_32, js_33, js_34, js_35, js_36, js_37, js_38, js_39, js_40, js_41, js_42, js_43, js_44, js_50, bd_0, bd_1, bd_2, bd_3, let_e, nz_0, nz_1, nz_n0, nz_n1, ix_n, nl_0, nl_1, nl_2, nl_3, nl_4, nl_5, nl_6, nl_7, nl_8, nl_9, nl_10, nl_11, nl_12, nl_16, nl_40, nl_64, nl_200, nl_1000, nl_m, nl_m2, nar_0, nar_1, nI_cl, nI_E, nI_L, nI_T, nI_m, nI_m', nI_ng, nN_lt, nN_le, nI_add, pk_mul, nI_S, nI_R4, nI_R64, nI_32, st_eq, st_k, st_j, if_true, if_false, Nat.not_lt_zero, Nat.zero_le]
  · have c0 : A 11 l 0 = 0 := by
      have := hP.2.2.2.2 l hl
      omega
    obtain ⟨P2, C1, f1, p1⟩ := k_fl hn hT hl 4096 n 0 0 A C (by omega) (by omega) (by omega) hR hP
    refine ⟨0, nI (sFN sh l n 0 A 0), C1, sFA sh l n 0 A, by simp, fun M => ?_, p1, Pr_up P2 (Nat.le_succ T), fun M hM => ?_⟩
    · have f1 : f_Ma_repeatFirstLetters n (jn C M) 0 (nI l) = some (0, nI (sFN sh l n 0 A 0), jn C1 M) := f1 M
      simp +decide (disch := omega) only [f_LA_sendAll, k_rl hR hn hl, k_up hR hn hl c0, f1, jn_0, jn_1, jn_2, jn_3, jn_4, jn_5, jn_6, jn_7, jn_8, jn_9, jn_10, jn_11, jn_12, jn_13, jn_14, jn_15, jn_16, jn_20, jn_21, jn_22, jn_23, jn_24, jn_25, jn_26, jn_27, jn_28, jn_29, jn_30, jn_31, jn_32, jn_33, jn_34, jn_35, jn_36, jn_37, jn_38, jn_39, jn_40, jn_41, jn_42, jn_43, jn_44, jn_50, js_0, js_1, js_2, js_3, js_4, js_5, js_6, js_7, js_8, js_9, js_10, js_11, js_12, js_13, js_14, js_15, js_16, js_20, js_21, js_22, js_23, js_24, js_25, js_26, js_27, js_28, js_29, js_30, js_31, js_32, js_33, js_34, js_35, js_36, js_37, js_38, js_39, js_40, js_41, js_42, js_43, js_44, js_50, bd_0, bd_1, bd_2, bd_3, let_e, nz_0, nz_1, nz_n0, nz_n1, ix_n, nl_0, nl_1, nl_2, nl_3, nl_4, nl_5, nl_6, nl_7, nl_8, nl_9, nl_10, nl_11, nl_12, nl_16, nl_40, nl_64, nl_200, nl_1000, nl_m, nl_m2, nar_0, nar_1, nI_cl, nI_E, nI_L, nI_T, nI_m, nI_m', nI_ng, nN_lt, nN_le, nI_add, pk_mul, nI_S, nI_R4, nI_R64, nI_32, st_eq, st_k, st_j, if_true, if_false, Nat.not_lt_zero, Nat.zero_le]
    · have b := hM.2.2.2.2.1 l hl
      obtain ⟨M1, m1, y1, y2, y3⟩ := q_fl hn hT hl 4096 n 0 0 A _ (by omega) (by omega) (by omega) (Rm_th (v := nI 0) hM) hP
      refine ⟨nI (sFN sh l n 0 A 0), M1, ?_, y1, by rw [y2, st_k (by decide)], by rw [y3, st_eq]; rfl, fun _ => rfl⟩
      have m1 : f_Mo_sendFirsts n (jn C1 (mm_st M 20 0 0 (nI 0))) 0 (nI l) = some (0, nI (sFN sh l n 0 A 0), jn C1 M1) := m1 C1
      simp +decide (disch := omega) only [f_Mo_sendAll_b50, f_Mo_sendAll_b34, f_Mo_sendAll_b33, f_Mo_sendAll_b13, f_Mo_sendAll, q_il hM hn hl, b, c0, q_r0, m1, jn_0, jn_1, jn_2, jn_3, jn_4, jn_5, jn_6, jn_7, jn_8, jn_9, jn_10, jn_11, jn_12, jn_13, jn_14, jn_15, jn_16, jn_20, jn_21, jn_22, jn_23, jn_24, jn_25, jn_26, jn_27, jn_28, jn_29, jn_30, jn_31, jn_32, jn_33, jn_34, jn_35, jn_36, jn_37, jn_38, jn_39, jn_40, jn_41, jn_42, jn_43, jn_44, jn_50, js_0, js_1, js_2, js_3, js_4, js_5, js_6, js_7, js_8, js_9, js_10, js_11, js_12, js_13, js_14, js_15, js_16, js_20, js_21, js_22, js_23, js_24, js_25, js_26, js_27, js_28, js_29, js_30, js_31, js_32, js_33, js_34, js_35, js_36, js_37, js_38, js_39, js_40, js_41, js_42, js_43, js_44, js_50, bd_0, bd_1, bd_2, bd_3, let_e, nz_0, nz_1, nz_n0, nz_n1, ix_n, nl_0, nl_1, nl_2, nl_3, nl_4, nl_5, nl_6, nl_7, nl_8, nl_9, nl_10, nl_11, nl_12, nl_16, nl_40, nl_64, nl_200, nl_1000, nl_m, nl_m2, nar_0, nar_1, nI_cl, nI_E, nI_L, nI_T, nI_m, nI_m', nI_ng, nN_lt, nN_le, nI_add, pk_mul, nI_S, nI_R4, nI_R64, nI_32, st_eq, st_k, st_j, if_true, if_false, Nat.not_lt_zero, Nat.zero_le]
theorem ag_restart {n sh T : Nat} {A : mm_A} {C : mm_M} (hn : n ≤ 12) (hT : T ≤ 1000000) (hR : Rp n sh C A) (hP : Pr n sh T A) (x : Int32) : AG n sh T A C (fun g => f_LA_restart n g 0 x) (fun g => f_Mo_restart n g 0 x) [0, 1, 3] th1 := by
  rcases tri n (by omega) x with hb | ⟨l, hl, rfl⟩
  · refine AG_same hR hP 1 (by simp) (v := nI 0) (v' := nI 0) (fun M => ?_) (fun M hM => ?_) (fun _ => rfl)
    · simp +decide (disch := omega) only [f_LA_restart, k_rlb hR hb, jn_0, jn_1, jn_2, jn_3, jn_4, jn_5, jn_6, jn_7, jn_8, jn_9, jn_10, jn_11, jn_12, jn_13, jn_14, jn_15, jn_16, jn_20, jn_21, jn_22, jn_23, jn_24, jn_25, jn_26, jn_27, jn_28, jn_29, jn_30, jn_31, jn_32, jn_33, jn_34, jn_35, jn_36, jn_37, jn_38, jn_39, jn_40, jn_41, jn_42, jn_43, jn_44, jn_50, js_0, js_1, js_2, js_3, js_4, js_5, js_6, js_7, js_8, js_9, js_10, js_11, js_12, js_13, js_14, js_15, js_16, js_20, js_21, js_22, js_23, js_24, js_25, js_26, js_27, js_28, js_29, js_30, js_31, js_32, js_33, js_34, js_35, js_36, js_37, js_38, js_39, js_40, js_41, js_42, js_43, js_44, js_50, bd_0, bd_1, bd_2, bd_3, let_e, nz_0, nz_1, nz_n0, nz_n1, ix_n, nl_0, nl_1, nl_2, nl_3, nl_4, nl_5, nl_6, nl_7, nl_8, nl_9, nl_10, nl_11, nl_12, nl_16, nl_40, nl_64, nl_200, nl_1000, nl_m, nl_m2, nar_0, nar_1, nI_cl, nI_E, nI_L, nI_T, nI_m, nI_m', nI_ng, nN_lt, nN_le, nI_add, pk_mul, nI_S, nI_R4, nI_R64, nI_32, st_eq, st_k, st_j, if_true, if_false, Nat.not_lt_zero, Nat.zero_le]
    · simp +decide (disch := omega) only [f_Mo_restart_b34, f_Mo_restart_b33, f_Mo_restart_b13, f_Mo_restart, q_ilb hM hb, q_r1, th1, jn_0, jn_1, jn_2, jn_3, jn_4, jn_5, jn_6, jn_7, jn_8, jn_9, jn_10, jn_11, jn_12, jn_13, jn_14, jn_15, jn_16, jn_20, jn_21, jn_22, jn_23, jn_24, jn_25, jn_26, jn_27, jn_28, jn_29, jn_30, jn_31, jn_32, jn_33, jn_34, jn_35, jn_36, jn_37, jn_38, jn_39, jn_40, jn_41, jn_42, jn_43, jn_44, jn_50, js_0, js_1, js_2, js_3, js_4, js_5, js_6, js_7, js_8, js_9, js_10, js_11, js_12, js_13, js_14, js_15, js_16, js_20, js_21, js_22, js_23, js_24, js_25, js_26, js_27, js_28, js_29, js_30, js_31, js_32, js_33, js_34, js_35, js_36, js_37, js_38, js_39, js_40, js_41, js_42, js_43, js_44, js_50, bd_0, bd_1, bd_2, bd_3, let_e, nz_0, nz_1, nz_n0, nz_n1, ix_n, nl_0, nl_1, nl_2, nl_3, nl_4, nl_5, nl_6, nl_7, nl_8, nl_9, nl_10, nl_11, nl_12, nl_16, nl_40, nl_64, nl_200, nl_1000, nl_m, nl_m2, nar_0, nar_1, nI_cl, nI_E, nI_L, nI_T, nI_m, nI_m', nI_ng, nN_lt, nN_le, nI_add, pk_mul, nI_S, nI_R4, nI_R64, nI_32, st_eq, st_k, st_j, if_true, if_false, Nat.not_lt_zero, Nat.zero_le]
  have a := hR.2.2.2.2.1 l hl
  by_cases c0 : A 11 l 0 = 0
  · refine AG_same hR hP 3 (by simp) (v := nI 0) (v' := nI 0) (fun M => ?_) (fun M hM => ?_) (fun _ => rfl)
    · simp +decide (disch := omega) only [f_LA_restart, k_rl hR hn hl, a, c0, jn_0, jn_1, jn_2, jn_3, jn_4, jn_5, jn_6, jn_7, jn_8, jn_9, jn_10, jn_11, jn_12, jn_13, jn_14, jn_15, jn_16, jn_20, jn_21, jn_22, jn_23, jn_24, jn_25, jn_26, jn_27, jn_28, jn_29, jn_30, jn_31, jn_32, jn_33, jn_34, jn_35, jn_36, jn_37, jn_38, jn_39, jn_40, jn_41, jn_42, jn_43, jn_44, jn_50, js_0, js_1, js_2, js_3, js_4, js_5, js_6, js_7, js_8, js_9, js_10, js_11, js_12, js_13, js_14, js_15, js_16, js_20, js_21, js_22, js_23, js_24, js_25, js_26, js_27, js_28, js_29, js_30, js_31, js_32, js_33, js_34, js_35, js_36, js_37, js_38, js_39, js_40, js_41, js_42, js_43, js_44, js_50, bd_0, bd_1, bd_2, bd_3, let_e, nz_0, nz_1, nz_n0, nz_n1, ix_n, nl_0, nl_1, nl_2, nl_3, nl_4, nl_5, nl_6, nl_7, nl_8, nl_9, nl_10, nl_11, nl_12, nl_16, nl_40, nl_64, nl_200, nl_1000, nl_m, nl_m2, nar_0, nar_1, nI_cl, nI_E, nI_L, nI_T, nI_m, nI_m', nI_ng, nN_lt, nN_le, nI_add, pk_mul, nI_S, nI_R4, nI_R64, nI_32, st_eq, st_k, st_j, if_true, if_false, Nat.not_lt_zero, Nat.zero_le]
    · have b := hM.2.2.2.2.1 l hl
      simp +decide (disch := omega) only [f_Mo_restart_b34, f_Mo_restart_b33, f_Mo_restart_b13, f_Mo_restart, q_il hM hn hl, b, c0, q_r2, th1, jn_0, jn_1, jn_2, jn_3, jn_4, jn_5, jn_6, jn_7, jn_8, jn_9, jn_10, jn_11, jn_12, jn_13, jn_14, jn_15, jn_16, jn_20, jn_21, jn_22, jn_23, jn_24, jn_25, jn_26, jn_27, jn_28, jn_29, jn_30, jn_31, jn_32, jn_33, jn_34, jn_35, jn_36, jn_37, jn_38, jn_39, jn_40, jn_41, jn_42, jn_43, jn_44, jn_50, js_0, js_1, js_2, js_3, js_4, js_5, js_6, js_7, js_8, js_9, js_10, js_11, js_12, js_13, js_14, js_15, js_16, js_20, js_21, js_22, js_23, js_24, js_25, js_26, js_27, js_28, js_29, js_30, js_31, js_32, js_33, js_34, js_35, js_36, js_37, js_38, js_39, js_40, js_41, js_42, js_43, js_44, js_50, bd_0, bd_1, bd_2, bd_3, let_e, nz_0, nz_1, nz_n0, nz_n1, ix_n, nl_0, nl_1, nl_2, nl_3, nl_4, nl_5, nl_6, nl_7, nl_8, nl_9, nl_10, nl_11, nl_12, nl_16, nl_40, nl_64, nl_200, nl_1000, nl_m, nl_m2, nar_0, nar_1, nI_cl, nI_E, nI_L, nI_T, nI_m, nI_m', nI_ng, nN_lt, nN_le, nI_add, pk_mul, nI_S, nI_R4, nI_R64, nI_32, st_eq, st_k, st_j, if_true, if_false, Nat.not_lt_zero, Nat.zero_le]
  · have hd := hP.2.2.2.2 l hl
    have p := Rp_dn hR hl (v := nI 0) (x := 0) rfl
    have P := Pr_dn hP (l := l) (x := 0) (by omega)
    obtain ⟨P2, C1, f1, p1⟩ := k_fl hn hT hl 4096 n 0 0 _ _ (by omega) (by omega) (by omega) p P
    refine ⟨0, nI (sFN sh l n 0 (as A 11 l 0 0) 0), C1, sFA sh l n 0 (as A 11 l 0 0), by simp, fun M => ?_, p1, Pr_up P2 (Nat.le_succ T), fun M hM => ?_⟩
    · have f1 : f_Ma_repeatFirstLetters n (jn (mm_st C 1 0 l (nI 0)) M) 0 (nI l) = some (0, nI (sFN sh l n 0 (as A 11 l 0 0) 0), jn C1 M) := f1 M
      simp +decide (disch := omega) only [f_LA_restart, k_rl hR hn hl, a, c0, f1, jn_0, jn_1, jn_2, jn_3, jn_4, jn_5, jn_6, jn_7, jn_8, jn_9, jn_10, jn_11, jn_12, jn_13, jn_14, jn_15, jn_16, jn_20, jn_21, jn_22, jn_23, jn_24, jn_25, jn_26, jn_27, jn_28, jn_29, jn_30, jn_31, jn_32, jn_33, jn_34, jn_35, jn_36, jn_37, jn_38, jn_39, jn_40, jn_41, jn_42, jn_43, jn_44, jn_50, js_0, js_1, js_2, js_3, js_4, js_5, js_6, js_7, js_8, js_9, js_10, js_11, js_12, js_13, js_14, js_15, js_16, js_20, js_21, js_22, js_23, js_24, js_25, js_26, js_27, js_28, js_29, js_30, js_31, js_32, js_33, js_34, js_35, js_36, js_37, js_38, js_39, js_40, js_41, js_42, js_43, js_44, js_50, bd_0, bd_1, bd_2, bd_3, let_e, nz_0, nz_1, nz_n0, nz_n1, ix_n, nl_0, nl_1, nl_2, nl_3, nl_4, nl_5, nl_6, nl_7, nl_8, nl_9, nl_10, nl_11, nl_12, nl_16, nl_40, nl_64, nl_200, nl_1000, nl_m, nl_m2, nar_0, nar_1, nI_cl, nI_E, nI_L, nI_T, nI_m, nI_m', nI_ng, nN_lt, nN_le, nI_add, pk_mul, nI_S, nI_R4, nI_R64, nI_32, st_eq, st_k, st_j, if_true, if_false, Nat.not_lt_zero, Nat.zero_le]
    · have b := hM.2.2.2.2.1 l hl
      have pm := Rm_dn (Rm_th (v := nI 0) hM) hl (v := nI 0) (x := 0) rfl
      obtain ⟨M1, m1, y1, y2, y3⟩ := q_fl hn hT hl 4096 n 0 0 _ _ (by omega) (by omega) (by omega) pm P
      refine ⟨nI (sFN sh l n 0 (as A 11 l 0 0) 0), M1, ?_, y1, by rw [y2, st_k (by decide), st_k (by decide)], by rw [y3, st_k (by decide), st_eq]; rfl, fun _ => rfl⟩
      have m1 : f_Mo_sendFirsts n (jn C1 (mm_st (mm_st M 20 0 0 (nI 0)) 22 0 l (nI 0))) 0 (nI l) = some (0, nI (sFN sh l n 0 (as A 11 l 0 0) 0), jn C1 M1) := m1 C1
      simp +decide (disch := omega) only [f_Mo_restart_b34, f_Mo_restart_b33, f_Mo_restart_b13, f_Mo_restart, q_il hM hn hl, b, c0, q_r0, m1, jn_0, jn_1, jn_2, jn_3, jn_4, jn_5, jn_6, jn_7, jn_8, jn_9, jn_10, jn_11, jn_12, jn_13, jn_14, jn_15, jn_16, jn_20, jn_21, jn_22, jn_23, jn_24, jn_25, jn_26, jn_27, jn_28, jn_29, jn_30, jn_31, jn_32, jn_33, jn_34, jn_35, jn_36, jn_37, jn_38, jn_39, jn_40, jn_41, jn_42, jn_43, jn_44, jn_50, js_0, js_1, js_2, js_3, js_4, js_5, js_6, js_7, js_8, js_9, js_10, js_11, js_12, js_13, js_14, js_15, js_16, js_20, js_21, js_22, js_23, js_24, js_25, js_26, js_27, js_28, js_29, js_30, js_31, js_32, js_33, js_34, js_35, js_36, js_37, js_38, js_39, js_40, js_41, js_42, js_43, js_44, js_50, bd_0, bd_1, bd_2, bd_3, let_e, nz_0, nz_1, nz_n0, nz_n1, ix_n, nl_0, nl_1, nl_2, nl_3, nl_4, nl_5, nl_6, nl_7, nl_8, nl_9, nl_10, nl_11, nl_12, nl_16, nl_40, nl_64, nl_200, nl_1000, nl_m, nl_m2, nar_0, nar_1, nI_cl, nI_E, nI_L, nI_T, nI_m, nI_m', nI_ng, nN_lt, nN_le, nI_add, pk_mul, nI_S, nI_R4, nI_R64, nI_32, st_eq, st_k, st_j, if_true, if_false, Nat.not_lt_zero, Nat.zero_le]

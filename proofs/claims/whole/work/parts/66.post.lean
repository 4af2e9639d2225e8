/-! packets: put, taken out, doubled -/
def CR (n sh : Nat) (C : mm_M) (f : mm_M → Option (Nat × Int32 × mm_M)) (e : Nat) (v : Int32) (A' : mm_A) : Prop := ∃ C', (∀ M, f (jn C M) = some (e, v, jn C' M)) ∧ Rp n sh C' A'
def MR (n sh : Nat) (M : mm_M) (f : mm_M → Option (Nat × Int32 × mm_M)) (v : Int32) (A' : mm_A) : Prop := ∃ M', (∀ C, f (jn C M) = some (0, v, jn C M')) ∧ Rm n sh M' A' ∧ M' 50 = M 50 ∧ M' 20 0 0 = M 20 0 0
theorem Rp_lo {n sh : Nat} {C C' : mm_M} {A : mm_A} (hc : ∀ a, a < 20 → C a = C' a) (h : Rp n sh C A) : Rp n sh C' A := by
  obtain ⟨r1, r2, r3, r4, r5, r6⟩ := h
  have k : ∀ a, a < 20 → C' a = C a := fun a ha => (hc a ha).symm
  exact ⟨RpD_fr r1 (k _ (by decide)) (k _ (by decide)) rfl rfl rfl rfl rfl (fun _ _ => rfl), RpC_fr r2 (k _ (by decide)) (k _ (by decide)) rfl rfl, RpL_fr r3 (k _ (by decide)) (k _ (by decide)) (k _ (by decide)) rfl rfl rfl, RpP_fr r4 (k _ (by decide)) (k _ (by decide)) rfl rfl, RpU_fr r5 (k _ (by decide)) rfl, RpF_fr r6 (k _ (by decide)) (k _ (by decide)) (k _ (by decide))⟩
theorem k_put {n sh : Nat} {C : mm_M} {A : mm_A} (h : Rp n sh C A) (hs : A 9 0 0 ≤ 40) (kd fr to nu cp ak : Nat) : CR n sh C (fun g => f_Po_put n g 0 (nI kd) (nI fr) (nI to) (nI nu) (zf cp) (zf ak)) 0 (nI 0) (sPut A kd fr to nu cp ak) := by
  have h10 := h.2.2.2.1.1
  generalize hq : A 9 0 0 = s at *
  by_cases c : s = 40
  · refine ⟨C, fun M => ?_, ?_⟩
    · subst c
      simp +decide (disch := omega) only [f_Po_put, h10, jn_0, jn_1, jn_2, jn_3, jn_4, jn_5, jn_6, jn_7, jn_8, jn_9, jn_10, jn_11, jn_12, jn_13, jn_14, jn_15, jn_16, jn_20, jn_21, jn_22, jn_23, jn_24, jn_25, jn_26, jn_27, jn_28, jn_29, jn_30, jn_31, jn_32, jn_33, jn_34, jn_35, jn_36, jn_37, jn_38, jn_39, jn_40, jn_41, jn_42, jn_43, jn_44, jn_50, js_0, js_1, js_2, js_3, js_4, js_5, js_6, js_7, js_8, js_9, js_10, js_11, js_12, js_13, js_14, js_15, js_16, js_20, js_21, js_22, js_23, js_24, js_25, js_26, js_27, js_28, js_29, js_30, js_31, js_32, js_33, js_34, js_35, js_36, js_37, js_38, js_39, js_40, js_41, js_42, js_43, js_44, js_50, bd_0, bd_1, bd_2, bd_3, let_e, nz_0, nz_1, nz_n0, nz_n1, ix_n, nl_0, nl_1, nl_2, nl_3, nl_4, nl_5, nl_6, nl_7, nl_8, nl_9, nl_10, nl_11, nl_12, nl_16, nl_40, nl_64, nl_200, nl_1000, nl_m, nl_m2, nar_0, nar_1, nI_cl, nI_E, nI_L, nI_T, nI_m, nI_m', nI_ng, nN_lt, nN_le, nI_add, pk_mul, nI_S, nI_R4, nI_R64, nI_32, st_eq, st_k, st_j, if_true, if_false]
    · unfold sPut
      rw [hq, if_pos c]
      exact h
  · have hs : s < 40 := by omega
    refine ⟨mm_st (mm_st (mm_st (mm_st (mm_st (mm_st (mm_st C 11 0 (s * 6 + 0) (nI kd)) 11 0 (s * 6 + 1) (nI fr)) 11 0 (s * 6 + 2) (nI to)) 11 0 (s * 6 + 3) (nI nu)) 11 0 (s * 6 + 4) (zf cp)) 11 0 (s * 6 + 5) (zf ak)) 10 0 1 (nI (s + 1)), fun M => ?_, ?_⟩
    · simp +decide (disch := omega) only [f_Po_put, h10, c, jn_0, jn_1, jn_2, jn_3, jn_4, jn_5, jn_6, jn_7, jn_8, jn_9, jn_10, jn_11, jn_12, jn_13, jn_14, jn_15, jn_16, jn_20, jn_21, jn_22, jn_23, jn_24, jn_25, jn_26, jn_27, jn_28, jn_29, jn_30, jn_31, jn_32, jn_33, jn_34, jn_35, jn_36, jn_37, jn_38, jn_39, jn_40, jn_41, jn_42, jn_43, jn_44, jn_50, js_0, js_1, js_2, js_3, js_4, js_5, js_6, js_7, js_8, js_9, js_10, js_11, js_12, js_13, js_14, js_15, js_16, js_20, js_21, js_22, js_23, js_24, js_25, js_26, js_27, js_28, js_29, js_30, js_31, js_32, js_33, js_34, js_35, js_36, js_37, js_38, js_39, js_40, js_41, js_42, js_43, js_44, js_50, bd_0, bd_1, bd_2, bd_3, let_e, nz_0, nz_1, nz_n0, nz_n1, ix_n, nl_0, nl_1, nl_2, nl_3, nl_4, nl_5, nl_6, nl_7, nl_8, nl_9, nl_10, nl_11, nl_12, nl_16, nl_40, nl_64, nl_200, nl_1000, nl_m, nl_m2, nar_0, nar_1, nI_cl, nI_E, nI_L, nI_T, nI_m, nI_m', nI_ng, nN_lt, nN_le, nI_add, pk_mul, nI_S, nI_R4, nI_R64, nI_32, st_eq, st_k, st_j, if_true, if_false]
      done
    · unfold sPut
      rw [hq, if_neg c]
      obtain ⟨r1, r2, r3, r4, r5, r6⟩ := h
      have k : ∀ a : Nat, a ≠ 10 → a ≠ 11 → mm_st (mm_st (mm_st (mm_st (mm_st (mm_st (mm_st C 11 0 (s * 6 + 0) (nI kd)) 11 0 (s * 6 + 1) (nI fr)) 11 0 (s * 6 + 2) (nI to)) 11 0 (s * 6 + 3) (nI nu)) 11 0 (s * 6 + 4) (zf cp)) 11 0 (s * 6 + 5) (zf ak)) 10 0 1 (nI (s + 1)) a = C a := fun a ha hb => by
        rw [st_k ha, st_k hb, st_k hb, st_k hb, st_k hb, st_k hb, st_k hb]
      have f : ∀ a : Nat, a ≠ 9 → a ≠ 10 → as (as (as (as (as (as (as A 10 s 0 kd) 10 s 1 fr) 10 s 2 to) 10 s 3 nu) 10 s 4 cp) 10 s 5 ak) 9 0 0 (s + 1) a = A a := fun a ha hb => by
        rw [as_f ha, as_f hb, as_f hb, as_f hb, as_f hb, as_f hb, as_f hb]
      refine ⟨RpD_fr r1 (k _ (by decide) (by decide)) (k _ (by decide) (by decide)) (f _ (by decide) (by decide)) (f _ (by decide) (by decide)) (f _ (by decide) (by decide)) (f _ (by decide) (by decide)) (f _ (by decide) (by decide)) (fun q hq => f _ (by omega) (by omega)), RpC_fr r2 (k _ (by decide) (by decide)) (k _ (by decide) (by decide)) (f _ (by decide) (by decide)) (f _ (by decide) (by decide)), RpL_fr r3 (k _ (by decide) (by decide)) (k _ (by decide) (by decide)) (k _ (by decide) (by decide)) (f _ (by decide) (by decide)) (f _ (by decide) (by decide)) (f _ (by decide) (by decide)), ?_, RpU_fr r5 (k _ (by decide) (by decide)) (f _ (by decide) (by decide)), RpF_fr r6 (k _ (by decide) (by decide)) (k _ (by decide) (by decide)) (k _ (by decide) (by decide))⟩
      refine ⟨by rw [st_eq, as_e], fun i hi => ?_⟩
      rw [as_e] at hi
      by_cases e : i = s
      · subst e
        rw [Nat.mul_comm 6 i]
        simp [st_ap, as_ap]
      · have a := r4.2 i (by omega)
        have e0 : ∀ w w' : Nat, w < 6 → w' < 6 → ¬ 6 * i + w = s * 6 + w' := fun w w' _ _ => by omega
        simp only [st_ap, as_ap]
        refine ⟨?_, ?_, ?_, ?_, ?_, ?_⟩
        · repeat rw [if_neg (by omega)]
          exact a.1
        · repeat rw [if_neg (by omega)]
          exact a.2.1
        · repeat rw [if_neg (by omega)]
          exact a.2.2.1
        · repeat rw [if_neg (by omega)]
          exact a.2.2.2.1
        · repeat rw [if_neg (by omega)]
          exact a.2.2.2.2.1
        · repeat rw [if_neg (by omega)]
          exact a.2.2.2.2.2
theorem q_put {n sh : Nat} {M : mm_M} {A : mm_A} (h : Rm n sh M A) (hs : A 9 0 0 ≤ 40) (kd fr to nu cp ak : Nat) : MR n sh M (fun g => f_Mo_post n g 0 (nI kd) (nI fr) (nI to) (nI nu) (zf cp) (zf ak)) (nI (if A 9 0 0 = 40 then 0 else 1)) (sPut A kd fr to nu cp ak) := by
  have h10 := h.2.2.2.1.1
  generalize hq : A 9 0 0 = s at *
  by_cases c : s = 40
  · refine ⟨M, fun C => ?_, ?_, rfl, rfl⟩
    · subst c
      simp +decide (disch := omega) only [f_Mo_post, h10, jn_0, jn_1, jn_2, jn_3, jn_4, jn_5, jn_6, jn_7, jn_8, jn_9, jn_10, jn_11, jn_12, jn_13, jn_14, jn_15, jn_16, jn_20, jn_21, jn_22, jn_23, jn_24, jn_25, jn_26, jn_27, jn_28, jn_29, jn_30, jn_31, jn_32, jn_33, jn_34, jn_35, jn_36, jn_37, jn_38, jn_39, jn_40, jn_41, jn_42, jn_43, jn_44, jn_50, js_0, js_1, js_2, js_3, js_4, js_5, js_6, js_7, js_8, js_9, js_10, js_11, js_12, js_13, js_14, js_15, js_16, js_20, js_21, js_22, js_23, js_24, js_25, js_26, js_27, js_28, js_29, js_30, js_31, js_32, js_33, js_34, js_35, js_36, js_37, js_38, js_39, js_40, js_41, js_42, js_43, js_44, js_50, bd_0, bd_1, bd_2, bd_3, let_e, nz_0, nz_1, nz_n0, nz_n1, ix_n, nl_0, nl_1, nl_2, nl_3, nl_4, nl_5, nl_6, nl_7, nl_8, nl_9, nl_10, nl_11, nl_12, nl_16, nl_40, nl_64, nl_200, nl_1000, nl_m, nl_m2, nar_0, nar_1, nI_cl, nI_E, nI_L, nI_T, nI_m, nI_m', nI_ng, nN_lt, nN_le, nI_add, pk_mul, nI_S, nI_R4, nI_R64, nI_32, st_eq, st_k, st_j, if_true, if_false]
    · unfold sPut
      rw [hq, if_pos c]
      exact h
  · have hs : s < 40 := by omega
    refine ⟨mm_st (mm_st (mm_st (mm_st (mm_st (mm_st (mm_st M 39 0 s (nI kd)) 40 0 s (nI fr)) 41 0 s (nI to)) 42 0 s (nI nu)) 43 0 s (zf cp)) 44 0 s (zf ak)) 20 0 20 (nI (s + 1)), fun C => ?_, ?_, ?_, ?_⟩
    · simp +decide (disch := omega) only [f_Mo_post, h10, c, jn_0, jn_1, jn_2, jn_3, jn_4, jn_5, jn_6, jn_7, jn_8, jn_9, jn_10, jn_11, jn_12, jn_13, jn_14, jn_15, jn_16, jn_20, jn_21, jn_22, jn_23, jn_24, jn_25, jn_26, jn_27, jn_28, jn_29, jn_30, jn_31, jn_32, jn_33, jn_34, jn_35, jn_36, jn_37, jn_38, jn_39, jn_40, jn_41, jn_42, jn_43, jn_44, jn_50, js_0, js_1, js_2, js_3, js_4, js_5, js_6, js_7, js_8, js_9, js_10, js_11, js_12, js_13, js_14, js_15, js_16, js_20, js_21, js_22, js_23, js_24, js_25, js_26, js_27, js_28, js_29, js_30, js_31, js_32, js_33, js_34, js_35, js_36, js_37, js_38, js_39, js_40, js_41, js_42, js_43, js_44, js_50, bd_0, bd_1, bd_2, bd_3, let_e, nz_0, nz_1, nz_n0, nz_n1, ix_n, nl_0, nl_1, nl_2, nl_3, nl_4, nl_5, nl_6, nl_7, nl_8, nl_9, nl_10, nl_11, nl_12, nl_16, nl_40, nl_64, nl_200, nl_1000, nl_m, nl_m2, nar_0, nar_1, nI_cl, nI_E, nI_L, nI_T, nI_m, nI_m', nI_ng, nN_lt, nN_le, nI_add, pk_mul, nI_S, nI_R4, nI_R64, nI_32, st_eq, st_k, st_j, if_true, if_false]
      done
    · unfold sPut
      rw [hq, if_neg c]
      obtain ⟨r1, r2, r3, r4, r5, r6⟩ := h
      have k : ∀ a : Nat, a ≠ 20 → a < 39 → mm_st (mm_st (mm_st (mm_st (mm_st (mm_st (mm_st M 39 0 s (nI kd)) 40 0 s (nI fr)) 41 0 s (nI to)) 42 0 s (nI nu)) 43 0 s (zf cp)) 44 0 s (zf ak)) 20 0 20 (nI (s + 1)) a = M a := fun a ha hb => by
        rw [st_k ha, st_k (by omega), st_k (by omega), st_k (by omega), st_k (by omega), st_k (by omega), st_k (by omega)]
      have f : ∀ a : Nat, a ≠ 9 → a ≠ 10 → as (as (as (as (as (as (as A 10 s 0 kd) 10 s 1 fr) 10 s 2 to) 10 s 3 nu) 10 s 4 cp) 10 s 5 ak) 9 0 0 (s + 1) a = A a := fun a ha hb => by
        rw [as_f ha, as_f hb, as_f hb, as_f hb, as_f hb, as_f hb, as_f hb]
      refine ⟨RmD_fr r1 (k _ (by decide) (by decide)) (k _ (by decide) (by decide)) (k _ (by decide) (by decide)) (k _ (by decide) (by decide)) (k _ (by decide) (by decide)) (k _ (by decide) (by decide)) (f _ (by decide) (by decide)) (f _ (by decide) (by decide)) (f _ (by decide) (by decide)) (f _ (by decide) (by decide)) (f _ (by decide) (by decide)) (fun q hq => f _ (by omega) (by omega)) (fun c hc q => by rw [f _ (by decide) (by decide)] at q; exact q), RmC_fr r2 (k _ (by decide) (by decide)) (k _ (by decide) (by decide)) (k _ (by decide) (by decide)) (k _ (by decide) (by decide)) (k _ (by decide) (by decide)) (f _ (by decide) (by decide)) (f _ (by decide) (by decide)), RmL_fr r3 (k _ (by decide) (by decide)) (k _ (by decide) (by decide)) (k _ (by decide) (by decide)) (k _ (by decide) (by decide)) (k _ (by decide) (by decide)) (f _ (by decide) (by decide)) (f _ (by decide) (by decide)) (f _ (by decide) (by decide)), ?_, RmU_fr r5 (k _ (by decide) (by decide)) (f _ (by decide) (by decide)), RmF_fr r6 (by simp [st_ap]) (k _ (by decide) (by decide))⟩
      refine ⟨by rw [st_eq, as_e], fun i hi => ?_⟩
      rw [as_e] at hi
      by_cases e : i = s
      · subst e
        simp [st_ap, as_ap]
      · have a := r4.2 i (by omega)
        simpa [st_ap, as_ap, e] using a
    · rw [st_k (by decide), st_k (by decide), st_k (by decide), st_k (by decide), st_k (by decide), st_k (by decide), st_k (by decide)]
    · simp [st_ap]

/-! a packet goes -/
theorem k_rem {n sh : Nat} {C : mm_M} {A : mm_A} (h : Rp n sh C A) (hs : A 9 0 0 ≤ 40) {i : Nat} (hi : i < A 9 0 0) : CR n sh C (fun g => f_Po_remove n g 0 (nI i)) 0 (nI 0) (sRem A i) := by
  have h10 := h.2.2.2.1.1
  generalize hq : A 9 0 0 = s at *
  refine ⟨mm_st (mm_row C 11 0 (va_cpy (C 11 0) (C 11 0) (i * 6 + 6) (i * 6) ((s - i - 1) * 6))) 10 0 1 (nI (s - 1)), fun M => ?_, ?_⟩
  · have c1 : ¬ nI (i * 6 + 6) < nI 0 := fun e => nI_pos (by omega) e
    have c2 : ¬ nI (i * 6) < nI 0 := fun e => nI_pos (by omega) e
    have c3 : ¬ nI ((s - i - 1) * 6) < nI 0 := fun e => nI_pos (by omega) e
    have hc : ∀ (X : Option (Nat × Int32 × mm_M)), mm_cp (nI (i * 6 + 6)) (nI (i * 6)) (nI ((s - i - 1) * 6)) 240 240 X = X := fun X => by
      unfold mm_cp
      rw [nI_cl (by omega), nI_cl (by omega), nI_cl (by omega)]
      exact if_pos ⟨c1, c2, c3, by omega, by omega⟩
    simp +decide (disch := omega) only [f_Po_remove, h10, hc, jr_11, row_k, jn_0, jn_1, jn_2, jn_3, jn_4, jn_5, jn_6, jn_7, jn_8, jn_9, jn_10, jn_11, jn_12, jn_13, jn_14, jn_15, jn_16, jn_20, jn_21, jn_22, jn_23, jn_24, jn_25, jn_26, jn_27, jn_28, jn_29, jn_30, jn_31, jn_32, jn_33, jn_34, jn_35, jn_36, jn_37, jn_38, jn_39, jn_40, jn_41, jn_42, jn_43, jn_44, jn_50, js_0, js_1, js_2, js_3, js_4, js_5, js_6, js_7, js_8, js_9, js_10, js_11, js_12, js_13, js_14, js_15, js_16, js_20, js_21, js_22, js_23, js_24, js_25, js_26, js_27, js_28, js_29, js_30, js_31, js_32, js_33, js_34, js_35, js_36, js_37, js_38, js_39, js_40, js_41, js_42, js_43, js_44, js_50, bd_0, bd_1, bd_2, bd_3, let_e, nz_0, nz_1, nz_n0, nz_n1, ix_n, nl_0, nl_1, nl_2, nl_3, nl_4, nl_5, nl_6, nl_7, nl_8, nl_9, nl_10, nl_11, nl_12, nl_16, nl_40, nl_64, nl_200, nl_1000, nl_m, nl_m2, nar_0, nar_1, nI_cl, nI_E, nI_L, nI_T, nI_m, nI_m', nI_ng, nN_lt, nN_le, nI_add, pk_mul, nI_S, nI_R4, nI_R64, nI_32, st_eq, st_k, st_j, if_true, if_false]
    done
  · obtain ⟨r1, r2, r3, r4, r5, r6⟩ := h
    have k : ∀ a : Nat, a ≠ 10 → a ≠ 11 → mm_st (mm_row C 11 0 (va_cpy (C 11 0) (C 11 0) (i * 6 + 6) (i * 6) ((s - i - 1) * 6))) 10 0 1 (nI (s - 1)) a = C a := fun a ha hb => by
      rw [st_k ha, row_k hb]
    have f : ∀ a : Nat, a ≠ 9 → a ≠ 10 → sRem A i a = A a := fun a ha hb => by
      unfold sRem
      rw [as_f ha]
      funext b w
      simp [hb]
    have f10 : ∀ b w, sRem A i 10 b w = if i ≤ b then A 10 (b + 1) w else A 10 b w := fun b w => by
      unfold sRem
      rw [as_f (by decide)]
      simp
    have f9 : sRem A i 9 0 0 = s - 1 := by
      unfold sRem
      rw [as_e, hq]
    refine ⟨RpD_fr r1 (k _ (by decide) (by decide)) (k _ (by decide) (by decide)) (f _ (by decide) (by decide)) (f _ (by decide) (by decide)) (f _ (by decide) (by decide)) (f _ (by decide) (by decide)) (f _ (by decide) (by decide)) (fun q hq => f _ (by omega) (by omega)), RpC_fr r2 (k _ (by decide) (by decide)) (k _ (by decide) (by decide)) (f _ (by decide) (by decide)) (f _ (by decide) (by decide)), RpL_fr r3 (k _ (by decide) (by decide)) (k _ (by decide) (by decide)) (k _ (by decide) (by decide)) (f _ (by decide) (by decide)) (f _ (by decide) (by decide)) (f _ (by decide) (by decide)), ?_, RpU_fr r5 (k _ (by decide) (by decide)) (f _ (by decide) (by decide)), RpF_fr r6 (k _ (by decide) (by decide)) (k _ (by decide) (by decide)) (k _ (by decide) (by decide))⟩
    refine ⟨by rw [st_eq, f9], fun b hb => ?_⟩
    rw [f9] at hb
    rw [st_k (by decide), row_self]
    simp only [f10]
    by_cases e : i ≤ b
    · have a := r4.2 (b + 1) (by omega)
      have e2 : ∀ w, w < 6 → va_cpy (C 11 0) (C 11 0) (i * 6 + 6) (i * 6) ((s - i - 1) * 6) (6 * b + w) = C 11 0 (6 * (b + 1) + w) := fun w hw => by
        unfold va_cpy
        rw [if_pos (by omega)]
        congr 1
        omega
      have e3 := e2 0 (by decide)
      simp only [Nat.add_zero] at e3
      simp only [e, if_true, e3, e2 1 (by decide), e2 2 (by decide), e2 3 (by decide), e2 4 (by decide), e2 5 (by decide)]
      exact a
    · have a := r4.2 b (by omega)
      have e2 : ∀ w, w < 6 → va_cpy (C 11 0) (C 11 0) (i * 6 + 6) (i * 6) ((s - i - 1) * 6) (6 * b + w) = C 11 0 (6 * b + w) := fun w hw => by
        unfold va_cpy
        rw [if_neg (by omega)]
      have e3 := e2 0 (by decide)
      simp only [Nat.add_zero] at e3
      simp only [e, if_false, e3, e2 1 (by decide), e2 2 (by decide), e2 3 (by decide), e2 4 (by decide), e2 5 (by decide)]
      exact a
theorem q_reml {n : Nat} {s i : Nat} (hs : s ≤ 40) (M0 : mm_M) : ∀ (k j : Nat) (M : mm_M), s - 1 - j < k → i ≤ j → j ≤ s - 1 → 1 ≤ s → M 20 0 20 = nI (s - 1) → (∀ a, a < 39 → M a = M0 a) → M 50 = M0 50 → (∀ a, 39 ≤ a → a < 45 → ∀ b, b < 40 → M a 0 b = if i ≤ b ∧ b < j then M0 a 0 (b + 1) else M0 a 0 b) → ∃ M', (∀ C, f_Mo_takeOut_l12 n k (jn C M) 0 (nI j) = some (0, nI 0, jn C M')) ∧ (∀ a, a < 39 → M' a = M0 a) ∧ M' 50 = M0 50 ∧ (∀ a, 39 ≤ a → a < 45 → ∀ b, b < 40 → M' a 0 b = if i ≤ b ∧ b < s - 1 then M0 a 0 (b + 1) else M0 a 0 b) := by
  intro k
  induction k with
  | zero =>
    intro j M h
    omega
  | succ k ih =>
    intro j M h1 h2 h3 h4 h5 h6 h7 h8
    by_cases c : j = s - 1
    · refine ⟨M, fun C => ?_, h6, h7, ?_⟩
      · rw [f_Mo_takeOut_l12]
        simp +decide (disch := omega) only [h5, c, Nat.le_refl, jn_0, jn_1, jn_2, jn_3, jn_4, jn_5, jn_6, jn_7, jn_8, jn_9, jn_10, jn_11, jn_12, jn_13, jn_14, jn_15, jn_16, jn_20, jn_21, jn_22, jn_23, jn_24, jn_25, jn_26, jn_27, jn_28, jn_29, jn_30, jn_31, jn_32, jn_33, jn_34, jn_35, jn_36, jn_37, jn_38, jn_39, jn_40, jn_41, jn_42, jn_43, jn_44, jn_50, js_0, js_1, js_2, js_3, js_4, js_5, js_6, js_7, js_8, js_9, js_10, js_11, js_12, js_13, js_14, js_15, js_16, js_20, js_21, js_22, js_23, js_24, js_25, js_26, js_27, js_28, js_29, js_30, js_31, js_32, js_33, js_34, js_35, js_36, js_37, js_38, js_39, js_40, js_41, js_42, js_43, js_44, js_50, bd_0, bd_1, bd_2, bd_3, let_e, nz_0, nz_1, nz_n0, nz_n1, ix_n, nl_0, nl_1, nl_2, nl_3, nl_4, nl_5, nl_6, nl_7, nl_8, nl_9, nl_10, nl_11, nl_12, nl_16, nl_40, nl_64, nl_200, nl_1000, nl_m, nl_m2, nar_0, nar_1, nI_cl, nI_E, nI_L, nI_T, nI_m, nI_m', nI_ng, nN_lt, nN_le, nI_add, pk_mul, nI_S, nI_R4, nI_R64, nI_32, st_eq, st_k, st_j, if_true, if_false]
      · subst c
        exact h8
    · have c2 : ¬ s - 1 ≤ j := by omega
      obtain ⟨M', e1, e2, e3, e4⟩ := ih (j + 1) (mm_st (mm_st (mm_st (mm_st (mm_st (mm_st M 39 0 j (M 39 0 (j + 1))) 40 0 j (M 40 0 (j + 1))) 41 0 j (M 41 0 (j + 1))) 42 0 j (M 42 0 (j + 1))) 43 0 j (M 43 0 (j + 1))) 44 0 j (M 44 0 (j + 1))) (by omega) (by omega) (by omega) h4 (by simp [st_ap, h5]) (fun a ha => by
        rw [st_k (by omega), st_k (by omega), st_k (by omega), st_k (by omega), st_k (by omega), st_k (by omega)]
        exact h6 a ha) (by rw [st_k (by decide), st_k (by decide), st_k (by decide), st_k (by decide), st_k (by decide), st_k (by decide)]; exact h7) (fun a ha ha' b hb => by
          have g1 := h8 a ha ha' b hb
          have g2 := fun hj => h8 a ha ha' (j + 1) hj
          have g3 : M a 0 (j + 1) = M0 a 0 (j + 1) := by
            rw [g2 (by omega), if_neg (by omega)]
          by_cases e : b = j
          · subst e
            rw [if_pos (by omega)]
            simp only [st_ap]
            have : a = 39 ∨ a = 40 ∨ a = 41 ∨ a = 42 ∨ a = 43 ∨ a = 44 := by omega
            rcases this with rfl | rfl | rfl | rfl | rfl | rfl <;> simp [g3]
          · simp only [st_ap, e, and_false, if_false]
            rw [g1]
            by_cases e2 : i ≤ b ∧ b < j
            · rw [if_pos e2, if_pos (by omega)]
            · rw [if_neg e2, if_neg (by omega)])
      refine ⟨M', fun C => ?_, e2, e3, e4⟩
      rw [f_Mo_takeOut_l12]
      simp +decide (disch := omega) only [h5, c2, jn_0, jn_1, jn_2, jn_3, jn_4, jn_5, jn_6, jn_7, jn_8, jn_9, jn_10, jn_11, jn_12, jn_13, jn_14, jn_15, jn_16, jn_20, jn_21, jn_22, jn_23, jn_24, jn_25, jn_26, jn_27, jn_28, jn_29, jn_30, jn_31, jn_32, jn_33, jn_34, jn_35, jn_36, jn_37, jn_38, jn_39, jn_40, jn_41, jn_42, jn_43, jn_44, jn_50, js_0, js_1, js_2, js_3, js_4, js_5, js_6, js_7, js_8, js_9, js_10, js_11, js_12, js_13, js_14, js_15, js_16, js_20, js_21, js_22, js_23, js_24, js_25, js_26, js_27, js_28, js_29, js_30, js_31, js_32, js_33, js_34, js_35, js_36, js_37, js_38, js_39, js_40, js_41, js_42, js_43, js_44, js_50, bd_0, bd_1, bd_2, bd_3, let_e, nz_0, nz_1, nz_n0, nz_n1, ix_n, nl_0, nl_1, nl_2, nl_3, nl_4, nl_5, nl_6, nl_7, nl_8, nl_9, nl_10, nl_11, nl_12, nl_16, nl_40, nl_64, nl_200, nl_1000, nl_m, nl_m2, nar_0, nar_1, nI_cl, nI_E, nI_L, nI_T, nI_m, nI_m', nI_ng, nN_lt, nN_le, nI_add, pk_mul, nI_S, nI_R4, nI_R64, nI_32, st_eq, st_k, st_j, if_true, if_false]
      exact e1 C
theorem q_rem {n sh : Nat} {M : mm_M} {A : mm_A} (h : Rm n sh M A) (hs : A 9 0 0 ≤ 40) {i : Nat} (hi : i < A 9 0 0) : MR n sh M (fun g => f_Mo_takeOut n g 0 (nI i)) (nI 0) (sRem A i) := by
  have h10 := h.2.2.2.1.1
  generalize hq : A 9 0 0 = s at *
  obtain ⟨M', e1, e2, e3, e4⟩ := q_reml (n := n) (i := i) hs (mm_st M 20 0 20 (nI (s - 1))) 4096 i (mm_st M 20 0 20 (nI (s - 1))) (by omega) (Nat.le_refl i) (by omega) (by omega) (st_eq _ _ _ _ _) (fun _ _ => rfl) rfl (fun a _ _ b hb => by rw [if_neg (by omega)])
  refine ⟨M', fun C => ?_, ?_, ?_, ?_⟩
  · simp +decide (disch := omega) only [f_Mo_takeOut, h10, jn_0, jn_1, jn_2, jn_3, jn_4, jn_5, jn_6, jn_7, jn_8, jn_9, jn_10, jn_11, jn_12, jn_13, jn_14, jn_15, jn_16, jn_20, jn_21, jn_22, jn_23, jn_24, jn_25, jn_26, jn_27, jn_28, jn_29, jn_30, jn_31, jn_32, jn_33, jn_34, jn_35, jn_36, jn_37, jn_38, jn_39, jn_40, jn_41, jn_42, jn_43, jn_44, jn_50, js_0, js_1, js_2, js_3, js_4, js_5, js_6, js_7, js_8, js_9, js_10, js_11, js_12, js_13, js_14, js_15, js_16, js_20, js_21, js_22, js_23, js_24, js_25, js_26, js_27, js_28, js_29, js_30, js_31, js_32, js_33, js_34, js_35, js_36, js_37, js_38, js_39, js_40, js_41, js_42, js_43, js_44, js_50, bd_0, bd_1, bd_2, bd_3, let_e, nz_0, nz_1, nz_n0, nz_n1, ix_n, nl_0, nl_1, nl_2, nl_3, nl_4, nl_5, nl_6, nl_7, nl_8, nl_9, nl_10, nl_11, nl_12, nl_16, nl_40, nl_64, nl_200, nl_1000, nl_m, nl_m2, nar_0, nar_1, nI_cl, nI_E, nI_L, nI_T, nI_m, nI_m', nI_ng, nN_lt, nN_le, nI_add, pk_mul, nI_S, nI_R4, nI_R64, nI_32, st_eq, st_k, st_j, if_true, if_false]
    exact e1 C
  · obtain ⟨r1, r2, r3, r4, r5, r6⟩ := h
    have k : ∀ a : Nat, a < 39 → a ≠ 20 → M' a = M a := fun a ha hb => by
      rw [e2 a ha, st_k hb]
    have f : ∀ a : Nat, a ≠ 9 → a ≠ 10 → sRem A i a = A a := fun a ha hb => by
      unfold sRem
      rw [as_f ha]
      funext b w
      simp [hb]
    have f10 : ∀ b w, sRem A i 10 b w = if i ≤ b then A 10 (b + 1) w else A 10 b w := fun b w => by
      unfold sRem
      rw [as_f (by decide)]
      simp
    have f9 : sRem A i 9 0 0 = s - 1 := by
      unfold sRem
      rw [as_e, hq]
    refine ⟨RmD_fr r1 (k _ (by decide) (by decide)) (k _ (by decide) (by decide)) (k _ (by decide) (by decide)) (k _ (by decide) (by decide)) (k _ (by decide) (by decide)) (k _ (by decide) (by decide)) (f _ (by decide) (by decide)) (f _ (by decide) (by decide)) (f _ (by decide) (by decide)) (f _ (by decide) (by decide)) (f _ (by decide) (by decide)) (fun q hq => f _ (by omega) (by omega)) (fun c hc q => by rw [f _ (by decide) (by decide)] at q; exact q), RmC_fr r2 (k _ (by decide) (by decide)) (k _ (by decide) (by decide)) (k _ (by decide) (by decide)) (k _ (by decide) (by decide)) (k _ (by decide) (by decide)) (f _ (by decide) (by decide)) (f _ (by decide) (by decide)), RmL_fr r3 (k _ (by decide) (by decide)) (k _ (by decide) (by decide)) (k _ (by decide) (by decide)) (k _ (by decide) (by decide)) (k _ (by decide) (by decide)) (f _ (by decide) (by decide)) (f _ (by decide) (by decide)) (f _ (by decide) (by decide)), ?_, RmU_fr r5 (k _ (by decide) (by decide)) (f _ (by decide) (by decide)), RmF_fr r6 (by rw [e2 20 (by decide), st_j (by decide)]) (k _ (by decide) (by decide))⟩
    refine ⟨by rw [e2 20 (by decide), st_eq, f9], fun b hb => ?_⟩
    rw [f9] at hb
    simp only [f10]
    have g : ∀ a, 39 ≤ a → a < 45 → M' a 0 b = if i ≤ b then M a 0 (b + 1) else M a 0 b := fun a ha ha' => by
      rw [e4 a ha ha' b (by omega), st_k (by omega)]
      by_cases e : i ≤ b
      · rw [if_pos ⟨e, hb⟩, if_pos e]
      · rw [if_neg (by omega), if_neg e]
    rw [g 39 (by decide) (by decide), g 40 (by decide) (by decide), g 41 (by decide) (by decide), g 42 (by decide) (by decide), g 43 (by decide) (by decide), g 44 (by decide) (by decide)]
    by_cases e : i ≤ b
    · simp only [e, if_true]
      exact r4.2 (b + 1) (by omega)
    · simp only [e, if_false]
      exact r4.2 b (by omega)
  · rw [e3, st_k (by decide)]
  · rw [e2 20 (by decide), st_j (by decide)]
/-! a packet is doubled -/
def sTwin (A : mm_A) (i : Nat) : mm_A := sPut A (A 10 i 0) (A 10 i 1) (A 10 i 2) (A 10 i 3) (A 10 i 4) (A 10 i 5)
theorem k_twin {n sh : Nat} {C : mm_M} {A : mm_A} (h : Rp n sh C A) (hs : A 9 0 0 ≤ 40) {i : Nat} (hi : i < A 9 0 0) : CR n sh C (fun g => f_Po_putAgain n g 0 (nI i)) 0 (nI (if A 9 0 0 = 40 then 0 else 1)) (sTwin A i) := by
  have h10 := h.2.2.2.1.1
  have a := h.2.2.2.1.2 i hi
  obtain ⟨C1, e1, p1⟩ := k_put h hs (A 10 i 0) (A 10 i 1) (A 10 i 2) (A 10 i 3) (A 10 i 4) (A 10 i 5)
  generalize hq : A 9 0 0 = s at *
  by_cases c : s = 40
  · refine ⟨C, fun M => ?_, ?_⟩
    · subst c
      simp +decide (disch := omega) only [f_Po_putAgain, h10, jn_0, jn_1, jn_2, jn_3, jn_4, jn_5, jn_6, jn_7, jn_8, jn_9, jn_10, jn_11, jn_12, jn_13, jn_14, jn_15, jn_16, jn_20, jn_21, jn_22, jn_23, jn_24, jn_25, jn_26, jn_27, jn_28, jn_29, jn_30, jn_31, jn_32, jn_33, jn_34, jn_35, jn_36, jn_37, jn_38, jn_39, jn_40, jn_41, jn_42, jn_43, jn_44, jn_50, js_0, js_1, js_2, js_3, js_4, js_5, js_6, js_7, js_8, js_9, js_10, js_11, js_12, js_13, js_14, js_15, js_16, js_20, js_21, js_22, js_23, js_24, js_25, js_26, js_27, js_28, js_29, js_30, js_31, js_32, js_33, js_34, js_35, js_36, js_37, js_38, js_39, js_40, js_41, js_42, js_43, js_44, js_50, bd_0, bd_1, bd_2, bd_3, let_e, nz_0, nz_1, nz_n0, nz_n1, ix_n, nl_0, nl_1, nl_2, nl_3, nl_4, nl_5, nl_6, nl_7, nl_8, nl_9, nl_10, nl_11, nl_12, nl_16, nl_40, nl_64, nl_200, nl_1000, nl_m, nl_m2, nar_0, nar_1, nI_cl, nI_E, nI_L, nI_T, nI_m, nI_m', nI_ng, nN_lt, nN_le, nI_add, pk_mul, nI_S, nI_R4, nI_R64, nI_32, st_eq, st_k, st_j, if_true, if_false]
    · unfold sTwin sPut
      rw [hq, if_pos c]
      exact h
  · refine ⟨mm_st (mm_row C 11 0 (va_cpy (C 11 0) (C 11 0) (i * 6) (s * 6) 6)) 10 0 1 (nI (s + 1)), fun M => ?_, ?_⟩
    · have c2 : ¬ nI (i * 6) < nI 0 := fun e => nI_pos (by omega) e
      have c3 : ¬ nI (s * 6) < nI 0 := fun e => nI_pos (by omega) e
      have hc : ∀ (X : Option (Nat × Int32 × mm_M)), mm_cp (nI (i * 6)) (nI (s * 6)) (nI 6) 240 240 X = X := fun X => by
        unfold mm_cp
        rw [nI_cl (by omega), nI_cl (by omega), nI_cl (by omega)]
        exact if_pos ⟨c2, c3, by decide, by omega, by omega⟩
      simp +decide (disch := omega) only [f_Po_putAgain, h10, c, hc, jr_11, row_k, jn_0, jn_1, jn_2, jn_3, jn_4, jn_5, jn_6, jn_7, jn_8, jn_9, jn_10, jn_11, jn_12, jn_13, jn_14, jn_15, jn_16, jn_20, jn_21, jn_22, jn_23, jn_24, jn_25, jn_26, jn_27, jn_28, jn_29, jn_30, jn_31, jn_32, jn_33, jn_34, jn_35, jn_36, jn_37, jn_38, jn_39, jn_40, jn_41, jn_42, jn_43, jn_44, jn_50, js_0, js_1, js_2, js_3, js_4, js_5, js_6, js_7, js_8, js_9, js_10, js_11, js_12, js_13, js_14, js_15, js_16, js_20, js_21, js_22, js_23, js_24, js_25, js_26, js_27, js_28, js_29, js_30, js_31, js_32, js_33, js_34, js_35, js_36, js_37, js_38, js_39, js_40, js_41, js_42, js_43, js_44, js_50, bd_0, bd_1, bd_2, bd_3, let_e, nz_0, nz_1, nz_n0, nz_n1, ix_n, nl_0, nl_1, nl_2, nl_3, nl_4, nl_5, nl_6, nl_7, nl_8, nl_9, nl_10, nl_11, nl_12, nl_16, nl_40, nl_64, nl_200, nl_1000, nl_m, nl_m2, nar_0, nar_1, nI_cl, nI_E, nI_L, nI_T, nI_m, nI_m', nI_ng, nN_lt, nN_le, nI_add, pk_mul, nI_S, nI_R4, nI_R64, nI_32, st_eq, st_k, st_j, if_true, if_false]
      done
    · have key : mm_st (mm_row C 11 0 (va_cpy (C 11 0) (C 11 0) (i * 6) (s * 6) 6)) 10 0 1 (nI (s + 1)) = mm_st (mm_st (mm_st (mm_st (mm_st (mm_st (mm_st C 11 0 (s * 6 + 0) (nI (A 10 i 0))) 11 0 (s * 6 + 1) (nI (A 10 i 1))) 11 0 (s * 6 + 2) (nI (A 10 i 2))) 11 0 (s * 6 + 3) (nI (A 10 i 3))) 11 0 (s * 6 + 4) (zf (A 10 i 4))) 11 0 (s * 6 + 5) (zf (A 10 i 5))) 10 0 1 (nI (s + 1)) := by
        congr 1
        funext x y z
        by_cases hx : x = 11 ∧ y = 0
        · obtain ⟨rfl, rfl⟩ := hx
          rw [row_self]
          simp only [st_ap, true_and]
          unfold va_cpy
          by_cases hz : s * 6 ≤ z ∧ z < s * 6 + 6
          · rw [if_pos hz]
            have : z = s * 6 + 0 ∨ z = s * 6 + 1 ∨ z = s * 6 + 2 ∨ z = s * 6 + 3 ∨ z = s * 6 + 4 ∨ z = s * 6 + 5 := by omega
            rcases this with q | q | q | q | q | q
            · rw [show i * 6 + (z - s * 6) = 6 * i by omega]
              repeat (first | rw [if_pos (by omega)] | rw [if_neg (by omega)])
              exact a.1
            · rw [show i * 6 + (z - s * 6) = 6 * i + 1 by omega]
              repeat (first | rw [if_pos (by omega)] | rw [if_neg (by omega)])
              exact a.2.1
            · rw [show i * 6 + (z - s * 6) = 6 * i + 2 by omega]
              repeat (first | rw [if_pos (by omega)] | rw [if_neg (by omega)])
              exact a.2.2.1
            · rw [show i * 6 + (z - s * 6) = 6 * i + 3 by omega]
              repeat (first | rw [if_pos (by omega)] | rw [if_neg (by omega)])
              exact a.2.2.2.1
            · rw [show i * 6 + (z - s * 6) = 6 * i + 4 by omega]
              repeat (first | rw [if_pos (by omega)] | rw [if_neg (by omega)])
              exact a.2.2.2.2.1
            · rw [show i * 6 + (z - s * 6) = 6 * i + 5 by omega]
              repeat (first | rw [if_pos (by omega)] | rw [if_neg (by omega)])
              exact a.2.2.2.2.2
          · rw [if_neg hz]
            repeat rw [if_neg (by omega)]
        · rw [mm_row_ne hx]
          simp only [st_ap]
          repeat rw [if_neg (by omega)]
      have e2 := e1 C
      dsimp only at e2
      rw [key]
      have e3 : f_Po_put n (jn C C) 0 (nI (A 10 i 0)) (nI (A 10 i 1)) (nI (A 10 i 2)) (nI (A 10 i 3)) (zf (A 10 i 4)) (zf (A 10 i 5)) = some (0, nI 0, jn (mm_st (mm_st (mm_st (mm_st (mm_st (mm_st (mm_st C 11 0 (s * 6 + 0) (nI (A 10 i 0))) 11 0 (s * 6 + 1) (nI (A 10 i 1))) 11 0 (s * 6 + 2) (nI (A 10 i 2))) 11 0 (s * 6 + 3) (nI (A 10 i 3))) 11 0 (s * 6 + 4) (zf (A 10 i 4))) 11 0 (s * 6 + 5) (zf (A 10 i 5))) 10 0 1 (nI (s + 1))) C) := by
        simp +decide (disch := omega) only [f_Po_put, h10, c, jn_0, jn_1, jn_2, jn_3, jn_4, jn_5, jn_6, jn_7, jn_8, jn_9, jn_10, jn_11, jn_12, jn_13, jn_14, jn_15, jn_16, jn_20, jn_21, jn_22, jn_23, jn_24, jn_25, jn_26, jn_27, jn_28, jn_29, jn_30, jn_31, jn_32, jn_33, jn_34, jn_35, jn_36, jn_37, jn_38, jn_39, jn_40, jn_41, jn_42, jn_43, jn_44, jn_50, js_0, js_1, js_2, js_3, js_4, js_5, js_6, js_7, js_8, js_9, js_10, js_11, js_12, js_13, js_14, js_15, js_16, js_20, js_21, js_22, js_23, js_24, js_25, js_26, js_27, js_28, js_29, js_30, js_31, js_32, js_33, js_34, js_35, js_36, js_37, js_38, js_39, js_40, js_41, js_42, js_43, js_44, js_50, bd_0, bd_1, bd_2, bd_3, let_e, nz_0, nz_1, nz_n0, nz_n1, ix_n, nl_0, nl_1, nl_2, nl_3, nl_4, nl_5, nl_6, nl_7, nl_8, nl_9, nl_10, nl_11, nl_12, nl_16, nl_40, nl_64, nl_200, nl_1000, nl_m, nl_m2, nar_0, nar_1, nI_cl, nI_E, nI_L, nI_T, nI_m, nI_m', nI_ng, nN_lt, nN_le, nI_add, pk_mul, nI_S, nI_R4, nI_R64, nI_32, st_eq, st_k, st_j, if_true, if_false]
        done
      rw [e3] at e2
      have e4 := congrArg (fun z : Option (Nat × Int32 × mm_M) => (z.getD (0, 0, C)).2.2) e2
      have e4 : jn (mm_st (mm_st (mm_st (mm_st (mm_st (mm_st (mm_st C 11 0 (s * 6 + 0) (nI (A 10 i 0))) 11 0 (s * 6 + 1) (nI (A 10 i 1))) 11 0 (s * 6 + 2) (nI (A 10 i 2))) 11 0 (s * 6 + 3) (nI (A 10 i 3))) 11 0 (s * 6 + 4) (zf (A 10 i 4))) 11 0 (s * 6 + 5) (zf (A 10 i 5))) 10 0 1 (nI (s + 1))) C = jn C1 C := e4
      exact Rp_lo (fun a ha => by have := congrFun e4 a; simpa [jn, ha] using this.symm) p1

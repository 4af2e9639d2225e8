/-! what is untouched stays -/
theorem RpD_fr {n : Nat} {C C' : mm_M} {A A' : mm_A} (h : RpD n C A) (h8 : C' 8 = C 8) (h9 : C' 9 = C 9) (a1 : A' 1 = A 1) (a2 : A' 2 = A 2) (a3 : A' 3 = A 3) (a4 : A' 4 = A 4) (a13 : A' 13 = A 13) (aq : ∀ k, k < 4 → A' (20 + k) = A (20 + k)) : RpD n C' A' := by
  intro c l hc hl
  have := h c l hc hl
  rw [h8, h9, a1, a2, a3, a4, a13]
  exact ⟨this.1, this.2.1, this.2.2.1, this.2.2.2.1, this.2.2.2.2.1, fun k hk => by rw [aq k hk]; exact this.2.2.2.2.2 k hk⟩
theorem RpC_fr {C C' : mm_M} {A A' : mm_A} (h : RpC C A) (h5 : C' 5 = C 5) (h7 : C' 7 = C 7) (a5 : A' 5 = A 5) (a14 : A' 14 = A 14) : RpC C' A' := by
  unfold RpC
  rw [h5, h7, a5, a14]
  exact h
theorem RpL_fr {n : Nat} {C C' : mm_M} {A A' : mm_A} (h : RpL n C A) (h14 : C' 14 = C 14) (h15 : C' 15 = C 15) (h16 : C' 16 = C 16) (a6 : A' 6 = A 6) (a7 : A' 7 = A 7) (a8 : A' 8 = A 8) : RpL n C' A' := by
  unfold RpL
  rw [h14, h15, h16, a6, a7, a8]
  exact h
theorem RpP_fr {C C' : mm_M} {A A' : mm_A} (h : RpP C A) (h10 : C' 10 = C 10) (h11 : C' 11 = C 11) (a9 : A' 9 = A 9) (a10 : A' 10 = A 10) : RpP C' A' := by
  unfold RpP
  rw [h10, h11, a9, a10]
  exact h
theorem RpU_fr {n : Nat} {C C' : mm_M} {A A' : mm_A} (h : RpU n C A) (h1 : C' 1 = C 1) (a11 : A' 11 = A 11) : RpU n C' A' := by
  unfold RpU
  rw [h1, a11]
  exact h
theorem RpF_fr {n sh : Nat} {C C' : mm_M} (h : RpF n sh C) (h0 : C' 0 = C 0) (h12 : C' 12 = C 12) (h3 : C' 3 = C 3) : RpF n sh C' := by
  unfold RpF
  rw [h0, h12, h3]
  exact h
theorem RmD_fr {n : Nat} {M M' : mm_M} {A A' : mm_A} (h : RmD n M A) (h24 : M' 24 = M 24) (h25 : M' 25 = M 25) (h26 : M' 26 = M 26) (h27 : M' 27 = M 27) (h28 : M' 28 = M 28) (h29 : M' 29 = M 29) (a1 : A' 1 = A 1) (a2 : A' 2 = A 2) (a3 : A' 3 = A 3) (a4 : A' 4 = A 4) (a13 : A' 13 = A 13) (aq : ∀ k, k < 4 → A' (20 + k) = A (20 + k)) (a5 : ∀ c, c < 3 → A' 5 c 0 ≠ 99 → A 5 c 0 ≠ 99) : RmD n M' A' := by
  intro c l hc hl
  have := h c l hc hl
  rw [h24, h25, h26, h27, h28, h29, a1, a2, a3, a4, a13]
  exact ⟨this.1, fun q => this.2.1 (a5 c hc q), this.2.2.1, this.2.2.2.1, fun k hk => by rw [aq k hk]; exact this.2.2.2.2 k hk⟩
theorem RmC_fr {M M' : mm_M} {A A' : mm_A} (h : RmC M A) (h23 : M' 23 = M 23) (h30 : M' 30 = M 30) (h31 : M' 31 = M 31) (h32 : M' 32 = M 32) (h33 : M' 33 = M 33) (a5 : A' 5 = A 5) (a14 : A' 14 = A 14) : RmC M' A' := by
  unfold RmC
  rw [h23, h30, h31, h32, h33, a5, a14]
  exact h
theorem RmL_fr {n : Nat} {M M' : mm_M} {A A' : mm_A} (h : RmL n M A) (h34 : M' 34 = M 34) (h35 : M' 35 = M 35) (h36 : M' 36 = M 36) (h37 : M' 37 = M 37) (h38 : M' 38 = M 38) (a6 : A' 6 = A 6) (a7 : A' 7 = A 7) (a8 : A' 8 = A 8) : RmL n M' A' := by
  unfold RmL
  rw [h34, h35, h36, h37, h38, a6, a7, a8]
  exact h
theorem RmP_fr {M M' : mm_M} {A A' : mm_A} (h : RmP M A) (h20 : M' 20 0 20 = M 20 0 20) (h39 : M' 39 = M 39) (h40 : M' 40 = M 40) (h41 : M' 41 = M 41) (h42 : M' 42 = M 42) (h43 : M' 43 = M 43) (h44 : M' 44 = M 44) (a9 : A' 9 = A 9) (a10 : A' 10 = A 10) : RmP M' A' := by
  unfold RmP
  rw [h20, h39, h40, h41, h42, h43, h44, a9, a10]
  exact h
theorem RmU_fr {n : Nat} {M M' : mm_M} {A A' : mm_A} (h : RmU n M A) (h22 : M' 22 = M 22) (a11 : A' 11 = A 11) : RmU n M' A' := by
  unfold RmU
  rw [h22, a11]
  exact h
theorem RmF_fr {n sh : Nat} {M M' : mm_M} (h : RmF n sh M) (h20 : M' 20 0 1 = M 20 0 1) (h21 : M' 21 = M 21) : RmF n sh M' := by
  unfold RmF
  rw [h20, h21]
  exact h
/-! writes, one at a time -/
theorem Rp_qd {n sh : Nat} {C : mm_M} {A : mm_A} (h : Rp n sh C A) (hn : n ≤ 12) {c l : Nat} (hc : c < 3) (hl : l < n) {v : Int32} {x : Nat} (hv : v = nI x) : Rp n sh (mm_st C 8 (12 * c + l) 1 v) (as A 1 c l x) := by
  obtain ⟨r1, r2, r3, r4, r5, r6⟩ := h
  refine ⟨?_, RpC_fr r2 (st_k (by decide)) (st_k (by decide)) (as_f (by omega)) (as_f (by omega)), RpL_fr r3 (st_k (by decide)) (st_k (by decide)) (st_k (by decide)) (as_f (by omega)) (as_f (by omega)) (as_f (by omega)), RpP_fr r4 (st_k (by decide)) (st_k (by decide)) (as_f (by omega)) (as_f (by omega)), RpU_fr r5 (st_k (by decide)) (as_f (by omega)), RpF_fr r6 (st_k (by decide)) (st_k (by decide)) (st_k (by decide))⟩
  intro c' l' hc' hl'
  have a := r1 c' l' hc' hl'
  by_cases e : c' = c ∧ l' = l
  · obtain ⟨rfl, rfl⟩ := e
    simp [st_ap, as_ap, hv, show ∀ k : Nat, ¬ 20 + k = 1 by omega] <;> grind
  · have e1 : ¬ 12 * c' + l' = 12 * c + l := by omega
    simpa [st_ap, as_ap, e, e1, show ∀ k : Nat, ¬ 20 + k = 1 by omega] using a
theorem Rp_ar {n sh : Nat} {C : mm_M} {A : mm_A} (h : Rp n sh C A) (hn : n ≤ 12) {c l : Nat} (hc : c < 3) (hl : l < n) {v : Int32} {x : Nat} (hv : v = zf x) : Rp n sh (mm_st C 8 (12 * c + l) 2 v) (as A 2 c l x) := by
  obtain ⟨r1, r2, r3, r4, r5, r6⟩ := h
  refine ⟨?_, RpC_fr r2 (st_k (by decide)) (st_k (by decide)) (as_f (by omega)) (as_f (by omega)), RpL_fr r3 (st_k (by decide)) (st_k (by decide)) (st_k (by decide)) (as_f (by omega)) (as_f (by omega)) (as_f (by omega)), RpP_fr r4 (st_k (by decide)) (st_k (by decide)) (as_f (by omega)) (as_f (by omega)), RpU_fr r5 (st_k (by decide)) (as_f (by omega)), RpF_fr r6 (st_k (by decide)) (st_k (by decide)) (st_k (by decide))⟩
  intro c' l' hc' hl'
  have a := r1 c' l' hc' hl'
  by_cases e : c' = c ∧ l' = l
  · obtain ⟨rfl, rfl⟩ := e
    simp [st_ap, as_ap, hv, show ∀ k : Nat, ¬ 20 + k = 2 by omega] <;> grind
  · have e1 : ¬ 12 * c' + l' = 12 * c + l := by omega
    simpa [st_ap, as_ap, e, e1, show ∀ k : Nat, ¬ 20 + k = 2 by omega] using a
theorem Rp_fo {n sh : Nat} {C : mm_M} {A : mm_A} (h : Rp n sh C A) (hn : n ≤ 12) {c l : Nat} (hc : c < 3) (hl : l < n) {v : Int32} {x : Nat} (hv : v = zf x) : Rp n sh (mm_st C 8 (12 * c + l) 3 v) (as A 3 c l x) := by
  obtain ⟨r1, r2, r3, r4, r5, r6⟩ := h
  refine ⟨?_, RpC_fr r2 (st_k (by decide)) (st_k (by decide)) (as_f (by omega)) (as_f (by omega)), RpL_fr r3 (st_k (by decide)) (st_k (by decide)) (st_k (by decide)) (as_f (by omega)) (as_f (by omega)) (as_f (by omega)), RpP_fr r4 (st_k (by decide)) (st_k (by decide)) (as_f (by omega)) (as_f (by omega)), RpU_fr r5 (st_k (by decide)) (as_f (by omega)), RpF_fr r6 (st_k (by decide)) (st_k (by decide)) (st_k (by decide))⟩
  intro c' l' hc' hl'
  have a := r1 c' l' hc' hl'
  by_cases e : c' = c ∧ l' = l
  · obtain ⟨rfl, rfl⟩ := e
    simp [st_ap, as_ap, hv, show ∀ k : Nat, ¬ 20 + k = 3 by omega] <;> grind
  · have e1 : ¬ 12 * c' + l' = 12 * c + l := by omega
    simpa [st_ap, as_ap, e, e1, show ∀ k : Nat, ¬ 20 + k = 3 by omega] using a
theorem Rp_st {n sh : Nat} {C : mm_M} {A : mm_A} (h : Rp n sh C A) (hn : n ≤ 12) {c l : Nat} (hc : c < 3) (hl : l < n) {v : Int32} {x : Nat} (hv : v = nI x) : Rp n sh (mm_st C 8 (12 * c + l) 4 v) (as A 4 c l x) := by
  obtain ⟨r1, r2, r3, r4, r5, r6⟩ := h
  refine ⟨?_, RpC_fr r2 (st_k (by decide)) (st_k (by decide)) (as_f (by omega)) (as_f (by omega)), RpL_fr r3 (st_k (by decide)) (st_k (by decide)) (st_k (by decide)) (as_f (by omega)) (as_f (by omega)) (as_f (by omega)), RpP_fr r4 (st_k (by decide)) (st_k (by decide)) (as_f (by omega)) (as_f (by omega)), RpU_fr r5 (st_k (by decide)) (as_f (by omega)), RpF_fr r6 (st_k (by decide)) (st_k (by decide)) (st_k (by decide))⟩
  intro c' l' hc' hl'
  have a := r1 c' l' hc' hl'
  by_cases e : c' = c ∧ l' = l
  · obtain ⟨rfl, rfl⟩ := e
    simp [st_ap, as_ap, hv, show ∀ k : Nat, ¬ 20 + k = 4 by omega] <;> grind
  · have e1 : ¬ 12 * c' + l' = 12 * c + l := by omega
    simpa [st_ap, as_ap, e, e1, show ∀ k : Nat, ¬ 20 + k = 4 by omega] using a
theorem Rp_bo {n sh : Nat} {C : mm_M} {A : mm_A} (h : Rp n sh C A) (hn : n ≤ 12) {c l : Nat} (hc : c < 3) (hl : l < n) {v : Int32} {x : Nat} (hv : v = nI x) : Rp n sh (mm_st C 8 (12 * c + l) 5 v) (as A 13 c l x) := by
  obtain ⟨r1, r2, r3, r4, r5, r6⟩ := h
  refine ⟨?_, RpC_fr r2 (st_k (by decide)) (st_k (by decide)) (as_f (by omega)) (as_f (by omega)), RpL_fr r3 (st_k (by decide)) (st_k (by decide)) (st_k (by decide)) (as_f (by omega)) (as_f (by omega)) (as_f (by omega)), RpP_fr r4 (st_k (by decide)) (st_k (by decide)) (as_f (by omega)) (as_f (by omega)), RpU_fr r5 (st_k (by decide)) (as_f (by omega)), RpF_fr r6 (st_k (by decide)) (st_k (by decide)) (st_k (by decide))⟩
  intro c' l' hc' hl'
  have a := r1 c' l' hc' hl'
  by_cases e : c' = c ∧ l' = l
  · obtain ⟨rfl, rfl⟩ := e
    simp [st_ap, as_ap, hv, show ∀ k : Nat, ¬ 20 + k = 13 by omega] <;> grind
  · have e1 : ¬ 12 * c' + l' = 12 * c + l := by omega
    simpa [st_ap, as_ap, e, e1, show ∀ k : Nat, ¬ 20 + k = 13 by omega] using a
theorem Rp_qu {n sh : Nat} {C : mm_M} {A : mm_A} (h : Rp n sh C A) (hn : n ≤ 12) {c l : Nat} (hc : c < 3) (hl : l < n) {v : Int32} {x k0 : Nat} (hk : k0 < 4) (hv : v = nI x) : Rp n sh (mm_st C 9 (12 * c + l) k0 v) (as A (20 + k0) c l x) := by
  obtain ⟨r1, r2, r3, r4, r5, r6⟩ := h
  refine ⟨?_, RpC_fr r2 (st_k (by decide)) (st_k (by decide)) (as_f (by omega)) (as_f (by omega)), RpL_fr r3 (st_k (by decide)) (st_k (by decide)) (st_k (by decide)) (as_f (by omega)) (as_f (by omega)) (as_f (by omega)), RpP_fr r4 (st_k (by decide)) (st_k (by decide)) (as_f (by omega)) (as_f (by omega)), RpU_fr r5 (st_k (by decide)) (as_f (by omega)), RpF_fr r6 (st_k (by decide)) (st_k (by decide)) (st_k (by decide))⟩
  intro c' l' hc' hl'
  have a := r1 c' l' hc' hl'
  have f1 : ¬ 1 = 20 + k0 := by omega
  have f2 : ¬ 2 = 20 + k0 := by omega
  have f3 : ¬ 3 = 20 + k0 := by omega
  have f4 : ¬ 4 = 20 + k0 := by omega
  have f5 : ¬ 13 = 20 + k0 := by omega
  refine ⟨?_, ?_, ?_, ?_, ?_, ?_⟩
  · simpa [st_ap, as_ap, f1] using a.1
  · simpa [st_ap, as_ap, f2] using a.2.1
  · simpa [st_ap, as_ap, f3] using a.2.2.1
  · simpa [st_ap, as_ap, f4] using a.2.2.2.1
  · simpa [st_ap, as_ap, f5] using a.2.2.2.2.1
  · intro k hk'
    have b := a.2.2.2.2.2 k hk'
    simp only [st_ap, as_ap]
    by_cases e : c' = c ∧ l' = l ∧ k = k0
    · obtain ⟨rfl, rfl, rfl⟩ := e
      simp [hv]
    · rw [if_neg (by omega), if_neg (by omega)]
      exact b
theorem Rp_wh {n sh : Nat} {C : mm_M} {A : mm_A} (h : Rp n sh C A) {c : Nat} (hc : c < 3) {v : Int32} {x : Nat} (hv : v = zf x) : Rp n sh (mm_st C 5 c 3 v) (as A 5 c 0 x) := by
  obtain ⟨r1, r2, r3, r4, r5, r6⟩ := h
  refine ⟨RpD_fr r1 (st_k (by decide)) (st_k (by decide)) (as_f (by omega)) (as_f (by omega)) (as_f (by omega)) (as_f (by omega)) (as_f (by omega)) (fun q hq => as_f (by omega)), ?_, RpL_fr r3 (st_k (by decide)) (st_k (by decide)) (st_k (by decide)) (as_f (by omega)) (as_f (by omega)) (as_f (by omega)), RpP_fr r4 (st_k (by decide)) (st_k (by decide)) (as_f (by omega)) (as_f (by omega)), RpU_fr r5 (st_k (by decide)) (as_f (by omega)), RpF_fr r6 (st_k (by decide)) (st_k (by decide)) (st_k (by decide))⟩
  intro c' hc'
  have a := r2 c' hc'
  by_cases e : c' = c
  · subst e
    simp [st_ap, as_ap, hv] <;> grind
  · simpa [st_ap, as_ap, e] using a
theorem Rp_iv {n sh : Nat} {C : mm_M} {A : mm_A} (h : Rp n sh C A) {c : Nat} (hc : c < 3) {v : Int32} {x : Nat} (hv : v = nI x) : Rp n sh (mm_st C 5 c 4 v) (as A 5 c 1 x) := by
  obtain ⟨r1, r2, r3, r4, r5, r6⟩ := h
  refine ⟨RpD_fr r1 (st_k (by decide)) (st_k (by decide)) (as_f (by omega)) (as_f (by omega)) (as_f (by omega)) (as_f (by omega)) (as_f (by omega)) (fun q hq => as_f (by omega)), ?_, RpL_fr r3 (st_k (by decide)) (st_k (by decide)) (st_k (by decide)) (as_f (by omega)) (as_f (by omega)) (as_f (by omega)), RpP_fr r4 (st_k (by decide)) (st_k (by decide)) (as_f (by omega)) (as_f (by omega)), RpU_fr r5 (st_k (by decide)) (as_f (by omega)), RpF_fr r6 (st_k (by decide)) (st_k (by decide)) (st_k (by decide))⟩
  intro c' hc'
  have a := r2 c' hc'
  by_cases e : c' = c
  · subst e
    simp [st_ap, as_ap, hv] <;> grind
  · simpa [st_ap, as_ap, e] using a
theorem Rp_ln {n sh : Nat} {C : mm_M} {A : mm_A} (h : Rp n sh C A) {c : Nat} (hc : c < 3) {v : Int32} {x : Nat} (hv : v = nI x) : Rp n sh (mm_st C 5 c 2 v) (as A 5 c 2 x) := by
  obtain ⟨r1, r2, r3, r4, r5, r6⟩ := h
  refine ⟨RpD_fr r1 (st_k (by decide)) (st_k (by decide)) (as_f (by omega)) (as_f (by omega)) (as_f (by omega)) (as_f (by omega)) (as_f (by omega)) (fun q hq => as_f (by omega)), ?_, RpL_fr r3 (st_k (by decide)) (st_k (by decide)) (st_k (by decide)) (as_f (by omega)) (as_f (by omega)) (as_f (by omega)), RpP_fr r4 (st_k (by decide)) (st_k (by decide)) (as_f (by omega)) (as_f (by omega)), RpU_fr r5 (st_k (by decide)) (as_f (by omega)), RpF_fr r6 (st_k (by decide)) (st_k (by decide)) (st_k (by decide))⟩
  intro c' hc'
  have a := r2 c' hc'
  by_cases e : c' = c
  · subst e
    simp [st_ap, as_ap, hv] <;> grind
  · simpa [st_ap, as_ap, e] using a
theorem Rp_lp {n sh : Nat} {C : mm_M} {A : mm_A} (h : Rp n sh C A) {c k0 : Nat} (hc : c < 3) (hk : k0 < 200) {v : Int32} {x : Nat} (hv : v = nI x) : Rp n sh (mm_st C 7 c k0 v) (as A 14 c k0 x) := by
  obtain ⟨r1, r2, r3, r4, r5, r6⟩ := h
  refine ⟨RpD_fr r1 (st_k (by decide)) (st_k (by decide)) (as_f (by omega)) (as_f (by omega)) (as_f (by omega)) (as_f (by omega)) (as_f (by omega)) (fun q hq => as_f (by omega)), ?_, RpL_fr r3 (st_k (by decide)) (st_k (by decide)) (st_k (by decide)) (as_f (by omega)) (as_f (by omega)) (as_f (by omega)), RpP_fr r4 (st_k (by decide)) (st_k (by decide)) (as_f (by omega)) (as_f (by omega)), RpU_fr r5 (st_k (by decide)) (as_f (by omega)), RpF_fr r6 (st_k (by decide)) (st_k (by decide)) (st_k (by decide))⟩
  intro c' hc'
  have a := r2 c' hc'
  refine ⟨by simpa [st_ap, as_ap] using a.1, by simpa [st_ap, as_ap] using a.2.1, by simpa [st_ap, as_ap] using a.2.2.1, fun k hk' => ?_⟩
  have b := a.2.2.2 k hk'
  simp only [st_ap, as_ap, true_and]
  by_cases e : c' = c ∧ k = k0
  · rw [if_pos e, if_pos e]
    exact hv
  · rw [if_neg e, if_neg e]
    exact b
theorem Rp_du {n sh : Nat} {C : mm_M} {A : mm_A} (h : Rp n sh C A) {d : Nat} (hd : d < 2 * n) {v : Int32} {x : Nat} (hv : v = nI x) : Rp n sh (mm_st C 14 d 4 v) (as A 6 d 2 x) := by
  obtain ⟨r1, r2, r3, r4, r5, r6⟩ := h
  refine ⟨RpD_fr r1 (st_k (by decide)) (st_k (by decide)) (as_f (by omega)) (as_f (by omega)) (as_f (by omega)) (as_f (by omega)) (as_f (by omega)) (fun q hq => as_f (by omega)), RpC_fr r2 (st_k (by decide)) (st_k (by decide)) (as_f (by omega)) (as_f (by omega)), ?_, RpP_fr r4 (st_k (by decide)) (st_k (by decide)) (as_f (by omega)) (as_f (by omega)), RpU_fr r5 (st_k (by decide)) (as_f (by omega)), RpF_fr r6 (st_k (by decide)) (st_k (by decide)) (st_k (by decide))⟩
  intro d' hd'
  have a := r3 d' hd'
  by_cases e : d' = d
  · subst e
    simp [st_ap, as_ap, hv] <;> grind
  · simpa [st_ap, as_ap, e] using a
theorem Rp_fi {n sh : Nat} {C : mm_M} {A : mm_A} (h : Rp n sh C A) {d : Nat} (hd : d < 2 * n) {v : Int32} {x : Nat} (hx : A 6 d 0 ≤ x) (hv : v = nI x) : Rp n sh (mm_st C 14 d 2 v) (as A 6 d 0 x) := by
  obtain ⟨r1, r2, r3, r4, r5, r6⟩ := h
  refine ⟨RpD_fr r1 (st_k (by decide)) (st_k (by decide)) (as_f (by omega)) (as_f (by omega)) (as_f (by omega)) (as_f (by omega)) (as_f (by omega)) (fun q hq => as_f (by omega)), RpC_fr r2 (st_k (by decide)) (st_k (by decide)) (as_f (by omega)) (as_f (by omega)), ?_, RpP_fr r4 (st_k (by decide)) (st_k (by decide)) (as_f (by omega)) (as_f (by omega)), RpU_fr r5 (st_k (by decide)) (as_f (by omega)), RpF_fr r6 (st_k (by decide)) (st_k (by decide)) (st_k (by decide))⟩
  intro d' hd'
  have a := r3 d' hd'
  by_cases e : d' = d
  · subst e
    refine ⟨by simpa [st_ap, as_ap] using hv, by simpa [st_ap, as_ap] using a.2.1, by simpa [st_ap, as_ap] using a.2.2.1, fun k h1 h2 => ?_⟩
    simp [as_ap] at h1 h2
    have b := a.2.2.2 k (by omega) h2
    simpa [st_ap, as_ap] using b
  · simpa [st_ap, as_ap, e] using a
theorem Rp_app {n sh : Nat} {C : mm_M} {A : mm_A} (h : Rp n sh C A) {d : Nat} (hd : d < 2 * n) {v w u : Int32} {x y : Nat} (hcap : A 6 d 1 < A 6 d 0 + 4) (hv : v = nI x) (hw : w = nI y) (hu : u = nI (A 6 d 1 + 1)) : Rp n sh (mm_st (mm_st (mm_st C 15 d (A 6 d 1 % 4) v) 16 d (A 6 d 1 % 4) w) 14 d 3 u) (sApp A d x y) := by
  obtain ⟨r1, r2, r3, r4, r5, r6⟩ := h
  refine ⟨RpD_fr r1 ((st_k (by decide)).trans ((st_k (by decide)).trans (st_k (by decide)))) ((st_k (by decide)).trans ((st_k (by decide)).trans (st_k (by decide)))) ((as_f (by omega)).trans ((as_f (by omega)).trans (as_f (by omega)))) ((as_f (by omega)).trans ((as_f (by omega)).trans (as_f (by omega)))) ((as_f (by omega)).trans ((as_f (by omega)).trans (as_f (by omega)))) ((as_f (by omega)).trans ((as_f (by omega)).trans (as_f (by omega)))) ((as_f (by omega)).trans ((as_f (by omega)).trans (as_f (by omega)))) (fun q hq => ((as_f (by omega)).trans ((as_f (by omega)).trans (as_f (by omega))))), RpC_fr r2 ((st_k (by decide)).trans ((st_k (by decide)).trans (st_k (by decide)))) ((st_k (by decide)).trans ((st_k (by decide)).trans (st_k (by decide)))) ((as_f (by omega)).trans ((as_f (by omega)).trans (as_f (by omega)))) ((as_f (by omega)).trans ((as_f (by omega)).trans (as_f (by omega)))), ?_, RpP_fr r4 ((st_k (by decide)).trans ((st_k (by decide)).trans (st_k (by decide)))) ((st_k (by decide)).trans ((st_k (by decide)).trans (st_k (by decide)))) ((as_f (by omega)).trans ((as_f (by omega)).trans (as_f (by omega)))) ((as_f (by omega)).trans ((as_f (by omega)).trans (as_f (by omega)))), RpU_fr r5 ((st_k (by decide)).trans ((st_k (by decide)).trans (st_k (by decide)))) ((as_f (by omega)).trans ((as_f (by omega)).trans (as_f (by omega)))), RpF_fr r6 ((st_k (by decide)).trans ((st_k (by decide)).trans (st_k (by decide)))) ((st_k (by decide)).trans ((st_k (by decide)).trans (st_k (by decide)))) ((st_k (by decide)).trans ((st_k (by decide)).trans (st_k (by decide))))⟩
  intro d' hd'
  have a := r3 d' hd'
  unfold sApp
  by_cases e : d' = d
  · subst e
    refine ⟨by simpa [st_ap, as_ap] using a.1, by simpa [st_ap, as_ap] using hu, by simpa [st_ap, as_ap] using a.2.2.1, fun k h1 h2 => ?_⟩
    simp [as_ap] at h1 h2
    by_cases e2 : k = A 6 d' 1
    · subst e2
      simp [st_ap, as_ap, hv, hw]
    · have b := a.2.2.2 k h1 (by omega)
      have e3 : ¬ k % 4 = A 6 d' 1 % 4 := by omega
      simpa [st_ap, as_ap, e2, e3] using b
  · simpa [st_ap, as_ap, e] using a
theorem Rp_dn {n sh : Nat} {C : mm_M} {A : mm_A} (h : Rp n sh C A) {l : Nat} (hl : l < n) {v : Int32} {x : Nat} (hv : v = nI x) : Rp n sh (mm_st C 1 0 l v) (as A 11 l 0 x) := by
  obtain ⟨r1, r2, r3, r4, r5, r6⟩ := h
  refine ⟨RpD_fr r1 (st_k (by decide)) (st_k (by decide)) (as_f (by omega)) (as_f (by omega)) (as_f (by omega)) (as_f (by omega)) (as_f (by omega)) (fun q hq => as_f (by omega)), RpC_fr r2 (st_k (by decide)) (st_k (by decide)) (as_f (by omega)) (as_f (by omega)), RpL_fr r3 (st_k (by decide)) (st_k (by decide)) (st_k (by decide)) (as_f (by omega)) (as_f (by omega)) (as_f (by omega)), RpP_fr r4 (st_k (by decide)) (st_k (by decide)) (as_f (by omega)) (as_f (by omega)), ?_, RpF_fr r6 (st_k (by decide)) (st_k (by decide)) (st_k (by decide))⟩
  intro l' hl'
  have a := r5 l' hl'
  by_cases e : l' = l
  · subst e
    simpa [st_ap, as_ap] using hv
  · simpa [st_ap, as_ap, e] using a
theorem Rm_qd {n sh : Nat} {M : mm_M} {A : mm_A} (h : Rm n sh M A) (hn : n ≤ 12) {c l : Nat} (hc : c < 3) (hl : l < n) {v : Int32} {x : Nat} (hv : v = nI x) : Rm n sh (mm_st M 28 0 (12 * c + l) v) (as A 1 c l x) := by
  obtain ⟨r1, r2, r3, r4, r5, r6⟩ := h
  refine ⟨?_, RmC_fr r2 (st_k (by decide)) (st_k (by decide)) (st_k (by decide)) (st_k (by decide)) (st_k (by decide)) (as_f (by omega)) (as_f (by omega)), RmL_fr r3 (st_k (by decide)) (st_k (by decide)) (st_k (by decide)) (st_k (by decide)) (st_k (by decide)) (as_f (by omega)) (as_f (by omega)) (as_f (by omega)), RmP_fr r4 (congrFun (congrFun (st_k (by decide)) 0) _) (st_k (by decide)) (st_k (by decide)) (st_k (by decide)) (st_k (by decide)) (st_k (by decide)) (st_k (by decide)) (as_f (by omega)) (as_f (by omega)), RmU_fr r5 (st_k (by decide)) (as_f (by omega)), RmF_fr r6 (congrFun (congrFun (st_k (by decide)) 0) _) (st_k (by decide))⟩
  intro c' l' hc' hl'
  have a := r1 c' l' hc' hl'
  by_cases e : c' = c ∧ l' = l
  · obtain ⟨rfl, rfl⟩ := e
    simp [st_ap, as_ap, hv, show ∀ k : Nat, ¬ 20 + k = 1 by omega] <;> grind
  · have e1 : ¬ 12 * c' + l' = 12 * c + l := by omega
    simpa [st_ap, as_ap, e, e1, show ∀ k : Nat, ¬ 20 + k = 1 by omega] using a
theorem Rm_ar {n sh : Nat} {M : mm_M} {A : mm_A} (h : Rm n sh M A) (hn : n ≤ 12) {c l : Nat} (hc : c < 3) (hl : l < n) {v : Int32} {x : Nat} (hv : v = zf x) : Rm n sh (mm_st M 24 0 (12 * c + l) v) (as A 2 c l x) := by
  obtain ⟨r1, r2, r3, r4, r5, r6⟩ := h
  refine ⟨?_, RmC_fr r2 (st_k (by decide)) (st_k (by decide)) (st_k (by decide)) (st_k (by decide)) (st_k (by decide)) (as_f (by omega)) (as_f (by omega)), RmL_fr r3 (st_k (by decide)) (st_k (by decide)) (st_k (by decide)) (st_k (by decide)) (st_k (by decide)) (as_f (by omega)) (as_f (by omega)) (as_f (by omega)), RmP_fr r4 (congrFun (congrFun (st_k (by decide)) 0) _) (st_k (by decide)) (st_k (by decide)) (st_k (by decide)) (st_k (by decide)) (st_k (by decide)) (st_k (by decide)) (as_f (by omega)) (as_f (by omega)), RmU_fr r5 (st_k (by decide)) (as_f (by omega)), RmF_fr r6 (congrFun (congrFun (st_k (by decide)) 0) _) (st_k (by decide))⟩
  intro c' l' hc' hl'
  have a := r1 c' l' hc' hl'
  by_cases e : c' = c ∧ l' = l
  · obtain ⟨rfl, rfl⟩ := e
    simp [st_ap, as_ap, hv, show ∀ k : Nat, ¬ 20 + k = 2 by omega] <;> grind
  · have e1 : ¬ 12 * c' + l' = 12 * c + l := by omega
    simpa [st_ap, as_ap, e, e1, show ∀ k : Nat, ¬ 20 + k = 2 by omega] using a
theorem Rm_fo {n sh : Nat} {M : mm_M} {A : mm_A} (h : Rm n sh M A) (hn : n ≤ 12) {c l : Nat} (hc : c < 3) (hl : l < n) {v : Int32} {x : Nat} (hv : v = zf x) : Rm n sh (mm_st M 25 0 (12 * c + l) v) (as A 3 c l x) := by
  obtain ⟨r1, r2, r3, r4, r5, r6⟩ := h
  refine ⟨?_, RmC_fr r2 (st_k (by decide)) (st_k (by decide)) (st_k (by decide)) (st_k (by decide)) (st_k (by decide)) (as_f (by omega)) (as_f (by omega)), RmL_fr r3 (st_k (by decide)) (st_k (by decide)) (st_k (by decide)) (st_k (by decide)) (st_k (by decide)) (as_f (by omega)) (as_f (by omega)) (as_f (by omega)), RmP_fr r4 (congrFun (congrFun (st_k (by decide)) 0) _) (st_k (by decide)) (st_k (by decide)) (st_k (by decide)) (st_k (by decide)) (st_k (by decide)) (st_k (by decide)) (as_f (by omega)) (as_f (by omega)), RmU_fr r5 (st_k (by decide)) (as_f (by omega)), RmF_fr r6 (congrFun (congrFun (st_k (by decide)) 0) _) (st_k (by decide))⟩
  intro c' l' hc' hl'
  have a := r1 c' l' hc' hl'
  by_cases e : c' = c ∧ l' = l
  · obtain ⟨rfl, rfl⟩ := e
    simp [st_ap, as_ap, hv, show ∀ k : Nat, ¬ 20 + k = 3 by omega] <;> grind
  · have e1 : ¬ 12 * c' + l' = 12 * c + l := by omega
    simpa [st_ap, as_ap, e, e1, show ∀ k : Nat, ¬ 20 + k = 3 by omega] using a
theorem Rm_st {n sh : Nat} {M : mm_M} {A : mm_A} (h : Rm n sh M A) (hn : n ≤ 12) {c l : Nat} (hc : c < 3) (hl : l < n) {v : Int32} {x : Nat} (hv : v = nI x) : Rm n sh (mm_st M 26 0 (12 * c + l) v) (as A 4 c l x) := by
  obtain ⟨r1, r2, r3, r4, r5, r6⟩ := h
  refine ⟨?_, RmC_fr r2 (st_k (by decide)) (st_k (by decide)) (st_k (by decide)) (st_k (by decide)) (st_k (by decide)) (as_f (by omega)) (as_f (by omega)), RmL_fr r3 (st_k (by decide)) (st_k (by decide)) (st_k (by decide)) (st_k (by decide)) (st_k (by decide)) (as_f (by omega)) (as_f (by omega)) (as_f (by omega)), RmP_fr r4 (congrFun (congrFun (st_k (by decide)) 0) _) (st_k (by decide)) (st_k (by decide)) (st_k (by decide)) (st_k (by decide)) (st_k (by decide)) (st_k (by decide)) (as_f (by omega)) (as_f (by omega)), RmU_fr r5 (st_k (by decide)) (as_f (by omega)), RmF_fr r6 (congrFun (congrFun (st_k (by decide)) 0) _) (st_k (by decide))⟩
  intro c' l' hc' hl'
  have a := r1 c' l' hc' hl'
  by_cases e : c' = c ∧ l' = l
  · obtain ⟨rfl, rfl⟩ := e
    simp [st_ap, as_ap, hv, show ∀ k : Nat, ¬ 20 + k = 4 by omega] <;> grind
  · have e1 : ¬ 12 * c' + l' = 12 * c + l := by omega
    simpa [st_ap, as_ap, e, e1, show ∀ k : Nat, ¬ 20 + k = 4 by omega] using a
theorem Rm_bo {n sh : Nat} {M : mm_M} {A : mm_A} (h : Rm n sh M A) (hn : n ≤ 12) {c l : Nat} (hc : c < 3) (hl : l < n) {v : Int32} {x : Nat} (hv : v = nI x) : Rm n sh (mm_st M 27 0 (12 * c + l) v) (as A 13 c l x) := by
  obtain ⟨r1, r2, r3, r4, r5, r6⟩ := h
  refine ⟨?_, RmC_fr r2 (st_k (by decide)) (st_k (by decide)) (st_k (by decide)) (st_k (by decide)) (st_k (by decide)) (as_f (by omega)) (as_f (by omega)), RmL_fr r3 (st_k (by decide)) (st_k (by decide)) (st_k (by decide)) (st_k (by decide)) (st_k (by decide)) (as_f (by omega)) (as_f (by omega)) (as_f (by omega)), RmP_fr r4 (congrFun (congrFun (st_k (by decide)) 0) _) (st_k (by decide)) (st_k (by decide)) (st_k (by decide)) (st_k (by decide)) (st_k (by decide)) (st_k (by decide)) (as_f (by omega)) (as_f (by omega)), RmU_fr r5 (st_k (by decide)) (as_f (by omega)), RmF_fr r6 (congrFun (congrFun (st_k (by decide)) 0) _) (st_k (by decide))⟩
  intro c' l' hc' hl'
  have a := r1 c' l' hc' hl'
  by_cases e : c' = c ∧ l' = l
  · obtain ⟨rfl, rfl⟩ := e
    simp [st_ap, as_ap, hv, show ∀ k : Nat, ¬ 20 + k = 13 by omega] <;> grind
  · have e1 : ¬ 12 * c' + l' = 12 * c + l := by omega
    simpa [st_ap, as_ap, e, e1, show ∀ k : Nat, ¬ 20 + k = 13 by omega] using a
theorem Rm_qu {n sh : Nat} {M : mm_M} {A : mm_A} (h : Rm n sh M A) (hn : n ≤ 12) {c l : Nat} (hc : c < 3) (hl : l < n) {v : Int32} {x k0 : Nat} (hk : k0 < 4) (hv : v = nI x) : Rm n sh (mm_st M 29 0 (4 * (12 * c + l) + k0) v) (as A (20 + k0) c l x) := by
  obtain ⟨r1, r2, r3, r4, r5, r6⟩ := h
  refine ⟨?_, RmC_fr r2 (st_k (by decide)) (st_k (by decide)) (st_k (by decide)) (st_k (by decide)) (st_k (by decide)) (as_f (by omega)) (as_f (by omega)), RmL_fr r3 (st_k (by decide)) (st_k (by decide)) (st_k (by decide)) (st_k (by decide)) (st_k (by decide)) (as_f (by omega)) (as_f (by omega)) (as_f (by omega)), RmP_fr r4 (congrFun (congrFun (st_k (by decide)) 0) _) (st_k (by decide)) (st_k (by decide)) (st_k (by decide)) (st_k (by decide)) (st_k (by decide)) (st_k (by decide)) (as_f (by omega)) (as_f (by omega)), RmU_fr r5 (st_k (by decide)) (as_f (by omega)), RmF_fr r6 (congrFun (congrFun (st_k (by decide)) 0) _) (st_k (by decide))⟩
  intro c' l' hc' hl'
  have a := r1 c' l' hc' hl'
  have f1 : ¬ 1 = 20 + k0 := by omega
  have f2 : ¬ 2 = 20 + k0 := by omega
  have f3 : ¬ 3 = 20 + k0 := by omega
  have f4 : ¬ 4 = 20 + k0 := by omega
  have f5 : ¬ 13 = 20 + k0 := by omega
  have f6 : ¬ 5 = 20 + k0 := by omega
  refine ⟨?_, ?_, ?_, ?_, ?_⟩
  · simpa [st_ap, as_ap, f1] using a.1
  · simpa [st_ap, as_ap, f2, f3, f6] using a.2.1
  · simpa [st_ap, as_ap, f4] using a.2.2.1
  · simpa [st_ap, as_ap, f5] using a.2.2.2.1
  · intro k hk'
    have b := a.2.2.2.2 k hk'
    simp only [st_ap, as_ap, true_and]
    by_cases e : c' = c ∧ l' = l ∧ k = k0
    · obtain ⟨rfl, rfl, rfl⟩ := e
      simp [hv]
    · rw [if_neg (by omega), if_neg (by omega)]
      exact b
theorem Rm_iv {n sh : Nat} {M : mm_M} {A : mm_A} (h : Rm n sh M A) {c : Nat} (hc : c < 3) {v : Int32} {x : Nat} (hv : v = nI x) : Rm n sh (mm_st M 31 0 c v) (as A 5 c 1 x) := by
  obtain ⟨r1, r2, r3, r4, r5, r6⟩ := h
  refine ⟨RmD_fr r1 (st_k (by decide)) (st_k (by decide)) (st_k (by decide)) (st_k (by decide)) (st_k (by decide)) (st_k (by decide)) (as_f (by omega)) (as_f (by omega)) (as_f (by omega)) (as_f (by omega)) (as_f (by omega)) (fun q hq => as_f (by omega)) (fun c hc q => by first | exact q | (rw [as_f (by omega)] at q; exact q) | simpa [as_ap] using q), ?_, RmL_fr r3 (st_k (by decide)) (st_k (by decide)) (st_k (by decide)) (st_k (by decide)) (st_k (by decide)) (as_f (by omega)) (as_f (by omega)) (as_f (by omega)), RmP_fr r4 (congrFun (congrFun (st_k (by decide)) 0) _) (st_k (by decide)) (st_k (by decide)) (st_k (by decide)) (st_k (by decide)) (st_k (by decide)) (st_k (by decide)) (as_f (by omega)) (as_f (by omega)), RmU_fr r5 (st_k (by decide)) (as_f (by omega)), RmF_fr r6 (congrFun (congrFun (st_k (by decide)) 0) _) (st_k (by decide))⟩
  intro c' hc'
  have a := r2 c' hc'
  by_cases e : c' = c
  · subst e
    simp [st_ap, as_ap, hv] <;> grind
  · simpa [st_ap, as_ap, e] using a
theorem Rm_ln {n sh : Nat} {M : mm_M} {A : mm_A} (h : Rm n sh M A) {c : Nat} (hc : c < 3) {v : Int32} {x : Nat} (hv : v = nI x) : Rm n sh (mm_st M 32 0 c v) (as A 5 c 2 x) := by
  obtain ⟨r1, r2, r3, r4, r5, r6⟩ := h
  refine ⟨RmD_fr r1 (st_k (by decide)) (st_k (by decide)) (st_k (by decide)) (st_k (by decide)) (st_k (by decide)) (st_k (by decide)) (as_f (by omega)) (as_f (by omega)) (as_f (by omega)) (as_f (by omega)) (as_f (by omega)) (fun q hq => as_f (by omega)) (fun c hc q => by first | exact q | (rw [as_f (by omega)] at q; exact q) | simpa [as_ap] using q), ?_, RmL_fr r3 (st_k (by decide)) (st_k (by decide)) (st_k (by decide)) (st_k (by decide)) (st_k (by decide)) (as_f (by omega)) (as_f (by omega)) (as_f (by omega)), RmP_fr r4 (congrFun (congrFun (st_k (by decide)) 0) _) (st_k (by decide)) (st_k (by decide)) (st_k (by decide)) (st_k (by decide)) (st_k (by decide)) (st_k (by decide)) (as_f (by omega)) (as_f (by omega)), RmU_fr r5 (st_k (by decide)) (as_f (by omega)), RmF_fr r6 (congrFun (congrFun (st_k (by decide)) 0) _) (st_k (by decide))⟩
  intro c' hc'
  have a := r2 c' hc'
  by_cases e : c' = c
  · subst e
    simp [st_ap, as_ap, hv] <;> grind
  · simpa [st_ap, as_ap, e] using a
theorem Rm_lp {n sh : Nat} {M : mm_M} {A : mm_A} (h : Rm n sh M A) {c k0 : Nat} (hc : c < 3) (hk : k0 < 200) {v : Int32} {x : Nat} (hv : v = nI x) : Rm n sh (mm_st M 33 0 (200 * c + k0) v) (as A 14 c k0 x) := by
  obtain ⟨r1, r2, r3, r4, r5, r6⟩ := h
  refine ⟨RmD_fr r1 (st_k (by decide)) (st_k (by decide)) (st_k (by decide)) (st_k (by decide)) (st_k (by decide)) (st_k (by decide)) (as_f (by omega)) (as_f (by omega)) (as_f (by omega)) (as_f (by omega)) (as_f (by omega)) (fun q hq => as_f (by omega)) (fun c hc q => by first | exact q | (rw [as_f (by omega)] at q; exact q) | simpa [as_ap] using q), ?_, RmL_fr r3 (st_k (by decide)) (st_k (by decide)) (st_k (by decide)) (st_k (by decide)) (st_k (by decide)) (as_f (by omega)) (as_f (by omega)) (as_f (by omega)), RmP_fr r4 (congrFun (congrFun (st_k (by decide)) 0) _) (st_k (by decide)) (st_k (by decide)) (st_k (by decide)) (st_k (by decide)) (st_k (by decide)) (st_k (by decide)) (as_f (by omega)) (as_f (by omega)), RmU_fr r5 (st_k (by decide)) (as_f (by omega)), RmF_fr r6 (congrFun (congrFun (st_k (by decide)) 0) _) (st_k (by decide))⟩
  intro c' hc'
  have a := r2 c' hc'
  refine ⟨by simpa [st_ap, as_ap] using a.1, by simpa [st_ap, as_ap] using a.2.1, by simpa [st_ap, as_ap] using a.2.2.1, by simpa [st_ap, as_ap] using a.2.2.2.1, fun k hk' => ?_⟩
  have b := a.2.2.2.2 k hk'
  simp only [st_ap, as_ap, true_and]
  by_cases e : c' = c ∧ k = k0
  · obtain ⟨rfl, rfl⟩ := e
    simpa using hv
  · rw [if_neg (by omega), if_neg e]
    exact b
theorem Rm_du {n sh : Nat} {M : mm_M} {A : mm_A} (h : Rm n sh M A) {d : Nat} (hd : d < 2 * n) {v : Int32} {x : Nat} (hv : v = nI x) : Rm n sh (mm_st M 36 0 d v) (as A 6 d 2 x) := by
  obtain ⟨r1, r2, r3, r4, r5, r6⟩ := h
  refine ⟨RmD_fr r1 (st_k (by decide)) (st_k (by decide)) (st_k (by decide)) (st_k (by decide)) (st_k (by decide)) (st_k (by decide)) (as_f (by omega)) (as_f (by omega)) (as_f (by omega)) (as_f (by omega)) (as_f (by omega)) (fun q hq => as_f (by omega)) (fun c hc q => by first | exact q | (rw [as_f (by omega)] at q; exact q) | simpa [as_ap] using q), RmC_fr r2 (st_k (by decide)) (st_k (by decide)) (st_k (by decide)) (st_k (by decide)) (st_k (by decide)) (as_f (by omega)) (as_f (by omega)), ?_, RmP_fr r4 (congrFun (congrFun (st_k (by decide)) 0) _) (st_k (by decide)) (st_k (by decide)) (st_k (by decide)) (st_k (by decide)) (st_k (by decide)) (st_k (by decide)) (as_f (by omega)) (as_f (by omega)), RmU_fr r5 (st_k (by decide)) (as_f (by omega)), RmF_fr r6 (congrFun (congrFun (st_k (by decide)) 0) _) (st_k (by decide))⟩
  refine ⟨fun d' hd' => ?_, fun d' h1 h2 => by simpa [st_ap] using r3.2 d' h1 h2⟩
  have a := r3.1 d' hd'
  by_cases e : d' = d
  · subst e
    simp [st_ap, as_ap, hv] <;> grind
  · simpa [st_ap, as_ap, e] using a
theorem Rm_fi {n sh : Nat} {M : mm_M} {A : mm_A} (h : Rm n sh M A) {d : Nat} (hd : d < 2 * n) {v : Int32} {x : Nat} (hx : A 6 d 0 ≤ x) (hv : v = nI x) : Rm n sh (mm_st M 34 0 d v) (as A 6 d 0 x) := by
  obtain ⟨r1, r2, r3, r4, r5, r6⟩ := h
  refine ⟨RmD_fr r1 (st_k (by decide)) (st_k (by decide)) (st_k (by decide)) (st_k (by decide)) (st_k (by decide)) (st_k (by decide)) (as_f (by omega)) (as_f (by omega)) (as_f (by omega)) (as_f (by omega)) (as_f (by omega)) (fun q hq => as_f (by omega)) (fun c hc q => by first | exact q | (rw [as_f (by omega)] at q; exact q) | simpa [as_ap] using q), RmC_fr r2 (st_k (by decide)) (st_k (by decide)) (st_k (by decide)) (st_k (by decide)) (st_k (by decide)) (as_f (by omega)) (as_f (by omega)), ?_, RmP_fr r4 (congrFun (congrFun (st_k (by decide)) 0) _) (st_k (by decide)) (st_k (by decide)) (st_k (by decide)) (st_k (by decide)) (st_k (by decide)) (st_k (by decide)) (as_f (by omega)) (as_f (by omega)), RmU_fr r5 (st_k (by decide)) (as_f (by omega)), RmF_fr r6 (congrFun (congrFun (st_k (by decide)) 0) _) (st_k (by decide))⟩
  refine ⟨fun d' hd' => ?_, fun d' h1 h2 => by simpa [st_ap, show ¬ d' = d by omega] using r3.2 d' h1 h2⟩
  have a := r3.1 d' hd'
  by_cases e : d' = d
  · subst e
    refine ⟨by simpa [st_ap, as_ap] using hv, by simpa [st_ap, as_ap] using a.2.1, by simpa [st_ap, as_ap] using a.2.2.1, fun k h1 h2 => ?_⟩
    simp [as_ap] at h1 h2
    have b := a.2.2.2 k (by omega) h2
    simpa [st_ap, as_ap] using b
  · simpa [st_ap, as_ap, e] using a
theorem Rm_app {n sh : Nat} {M : mm_M} {A : mm_A} (h : Rm n sh M A) {d : Nat} (hd : d < 2 * n) {v w u : Int32} {x y : Nat} (hcap : A 6 d 1 < A 6 d 0 + 4) (hv : v = nI x) (hw : w = nI y) (hu : u = nI (A 6 d 1 + 1)) : Rm n sh (mm_st (mm_st (mm_st M 37 0 (64 * d + A 6 d 1 % 64) v) 38 0 (64 * d + A 6 d 1 % 64) w) 35 0 d u) (sApp A d x y) := by
  obtain ⟨r1, r2, r3, r4, r5, r6⟩ := h
  refine ⟨RmD_fr r1 ((st_k (by decide)).trans ((st_k (by decide)).trans (st_k (by decide)))) ((st_k (by decide)).trans ((st_k (by decide)).trans (st_k (by decide)))) ((st_k (by decide)).trans ((st_k (by decide)).trans (st_k (by decide)))) ((st_k (by decide)).trans ((st_k (by decide)).trans (st_k (by decide)))) ((st_k (by decide)).trans ((st_k (by decide)).trans (st_k (by decide)))) ((st_k (by decide)).trans ((st_k (by decide)).trans (st_k (by decide)))) ((as_f (by omega)).trans ((as_f (by omega)).trans (as_f (by omega)))) ((as_f (by omega)).trans ((as_f (by omega)).trans (as_f (by omega)))) ((as_f (by omega)).trans ((as_f (by omega)).trans (as_f (by omega)))) ((as_f (by omega)).trans ((as_f (by omega)).trans (as_f (by omega)))) ((as_f (by omega)).trans ((as_f (by omega)).trans (as_f (by omega)))) (fun q hq => ((as_f (by omega)).trans ((as_f (by omega)).trans (as_f (by omega))))) (fun c hc q => by first | exact q | (rw [as_f (by omega)] at q; exact q) | simpa [as_ap] using q), RmC_fr r2 ((st_k (by decide)).trans ((st_k (by decide)).trans (st_k (by decide)))) ((st_k (by decide)).trans ((st_k (by decide)).trans (st_k (by decide)))) ((st_k (by decide)).trans ((st_k (by decide)).trans (st_k (by decide)))) ((st_k (by decide)).trans ((st_k (by decide)).trans (st_k (by decide)))) ((st_k (by decide)).trans ((st_k (by decide)).trans (st_k (by decide)))) ((as_f (by omega)).trans ((as_f (by omega)).trans (as_f (by omega)))) ((as_f (by omega)).trans ((as_f (by omega)).trans (as_f (by omega)))), ?_, RmP_fr r4 (congrFun (congrFun ((st_k (by decide)).trans ((st_k (by decide)).trans (st_k (by decide)))) 0) _) ((st_k (by decide)).trans ((st_k (by decide)).trans (st_k (by decide)))) ((st_k (by decide)).trans ((st_k (by decide)).trans (st_k (by decide)))) ((st_k (by decide)).trans ((st_k (by decide)).trans (st_k (by decide)))) ((st_k (by decide)).trans ((st_k (by decide)).trans (st_k (by decide)))) ((st_k (by decide)).trans ((st_k (by decide)).trans (st_k (by decide)))) ((st_k (by decide)).trans ((st_k (by decide)).trans (st_k (by decide)))) ((as_f (by omega)).trans ((as_f (by omega)).trans (as_f (by omega)))) ((as_f (by omega)).trans ((as_f (by omega)).trans (as_f (by omega)))), RmU_fr r5 ((st_k (by decide)).trans ((st_k (by decide)).trans (st_k (by decide)))) ((as_f (by omega)).trans ((as_f (by omega)).trans (as_f (by omega)))), RmF_fr r6 (congrFun (congrFun ((st_k (by decide)).trans ((st_k (by decide)).trans (st_k (by decide)))) 0) _) ((st_k (by decide)).trans ((st_k (by decide)).trans (st_k (by decide))))⟩
  unfold sApp
  refine ⟨fun d' hd' => ?_, fun d' h1 h2 => by simpa [st_ap, show ¬ d' = d by omega] using r3.2 d' h1 h2⟩
  have a := r3.1 d' hd'
  by_cases e : d' = d
  · subst e
    refine ⟨by simpa [st_ap, as_ap] using a.1, by simpa [st_ap, as_ap] using hu, by simpa [st_ap, as_ap] using a.2.2.1, fun k h1 h2 => ?_⟩
    simp [as_ap] at h1 h2
    by_cases e2 : k = A 6 d' 1
    · subst e2
      simp [st_ap, as_ap, hv, hw]
    · have b := a.2.2.2 k h1 (by omega)
      have e3 : ¬ k % 64 = A 6 d' 1 % 64 := by omega
      simpa [st_ap, as_ap, e2, e3] using b
  · refine ⟨by simpa [st_ap, as_ap, e] using a.1, by simpa [st_ap, as_ap, e] using a.2.1, by simpa [st_ap, as_ap, e] using a.2.2.1, fun k h1 h2 => ?_⟩
    simp [as_ap, e] at h1 h2
    have b := a.2.2.2 k h1 h2
    have e3 : ¬ 64 * d' + k % 64 = 64 * d + A 6 d 1 % 64 := by omega
    simpa [st_ap, as_ap, e, e3] using b
theorem Rm_dn {n sh : Nat} {M : mm_M} {A : mm_A} (h : Rm n sh M A) {l : Nat} (hl : l < n) {v : Int32} {x : Nat} (hv : v = nI x) : Rm n sh (mm_st M 22 0 l v) (as A 11 l 0 x) := by
  obtain ⟨r1, r2, r3, r4, r5, r6⟩ := h
  refine ⟨RmD_fr r1 (st_k (by decide)) (st_k (by decide)) (st_k (by decide)) (st_k (by decide)) (st_k (by decide)) (st_k (by decide)) (as_f (by omega)) (as_f (by omega)) (as_f (by omega)) (as_f (by omega)) (as_f (by omega)) (fun q hq => as_f (by omega)) (fun c hc q => by first | exact q | (rw [as_f (by omega)] at q; exact q) | simpa [as_ap] using q), RmC_fr r2 (st_k (by decide)) (st_k (by decide)) (st_k (by decide)) (st_k (by decide)) (st_k (by decide)) (as_f (by omega)) (as_f (by omega)), RmL_fr r3 (st_k (by decide)) (st_k (by decide)) (st_k (by decide)) (st_k (by decide)) (st_k (by decide)) (as_f (by omega)) (as_f (by omega)) (as_f (by omega)), RmP_fr r4 (congrFun (congrFun (st_k (by decide)) 0) _) (st_k (by decide)) (st_k (by decide)) (st_k (by decide)) (st_k (by decide)) (st_k (by decide)) (st_k (by decide)) (as_f (by omega)) (as_f (by omega)), ?_, RmF_fr r6 (congrFun (congrFun (st_k (by decide)) 0) _) (st_k (by decide))⟩
  intro l' hl'
  have a := r5 l' hl'
  by_cases e : l' = l
  · subst e
    simpa [st_ap, as_ap] using hv
  · simpa [st_ap, as_ap, e] using a
theorem Rm_wh {n sh : Nat} {M : mm_M} {A : mm_A} (h : Rm n sh M A) {c : Nat} (hc : c < 3) {v : Int32} {x : Nat} (h0 : A 5 c 0 ≠ 99) (h1 : x ≠ 99) (hv : v = zf x) : Rm n sh (mm_st M 30 0 c v) (as A 5 c 0 x) := by
  obtain ⟨r1, r2, r3, r4, r5, r6⟩ := h
  have k : ∀ a : Nat, a ≠ 30 → mm_st M 30 0 c v a = M a := fun a ha => st_k ha
  have f : ∀ a : Nat, a ≠ 5 → as A 5 c 0 x a = A a := fun a ha => as_f ha
  refine ⟨RmD_fr r1 (k _ (by decide)) (k _ (by decide)) (k _ (by decide)) (k _ (by decide)) (k _ (by decide)) (k _ (by decide)) (f _ (by decide)) (f _ (by decide)) (f _ (by decide)) (f _ (by decide)) (f _ (by decide)) (fun q hq => f _ (by omega)) (fun c' hc' q => ?_), ?_, RmL_fr r3 (k _ (by decide)) (k _ (by decide)) (k _ (by decide)) (k _ (by decide)) (k _ (by decide)) (f _ (by decide)) (f _ (by decide)) (f _ (by decide)), RmP_fr r4 (congrFun (congrFun (k _ (by decide)) 0) _) (k _ (by decide)) (k _ (by decide)) (k _ (by decide)) (k _ (by decide)) (k _ (by decide)) (k _ (by decide)) (f _ (by decide)) (f _ (by decide)), RmU_fr r5 (k _ (by decide)) (f _ (by decide)), RmF_fr r6 (congrFun (congrFun (k _ (by decide)) 0) _) (k _ (by decide))⟩
  · by_cases e : c' = c
    · subst e
      exact h0
    · rw [as_i e] at q
      exact q
  · intro c' hc'
    have a := r2 c' hc'
    by_cases e : c' = c
    · subst e
      simp [h0] at a
      simpa [st_ap, as_ap, hv, h1] using a.2
    · simpa [st_ap, as_ap, e] using a
theorem Rm_th {n sh : Nat} {M : mm_M} {A : mm_A} (h : Rm n sh M A) {v : Int32} : Rm n sh (mm_st M 20 0 0 v) A := by
  obtain ⟨r1, r2, r3, r4, r5, r6⟩ := h
  have k : ∀ a : Nat, a ≠ 20 → mm_st M 20 0 0 v a = M a := fun a ha => st_k ha
  exact ⟨RmD_fr r1 (k _ (by decide)) (k _ (by decide)) (k _ (by decide)) (k _ (by decide)) (k _ (by decide)) (k _ (by decide)) rfl rfl rfl rfl rfl (fun _ _ => rfl) (fun _ _ q => q), RmC_fr r2 (k _ (by decide)) (k _ (by decide)) (k _ (by decide)) (k _ (by decide)) (k _ (by decide)) rfl rfl, RmL_fr r3 (k _ (by decide)) (k _ (by decide)) (k _ (by decide)) (k _ (by decide)) (k _ (by decide)) rfl rfl rfl, RmP_fr r4 (st_j (by decide)) (k _ (by decide)) (k _ (by decide)) (k _ (by decide)) (k _ (by decide)) (k _ (by decide)) (k _ (by decide)) rfl rfl, RmU_fr r5 (k _ (by decide)) rfl, RmF_fr r6 (st_j (by decide)) (k _ (by decide))⟩
theorem Rm_50 {n sh : Nat} {M : mm_M} {A : mm_A} (h : Rm n sh M A) {v : Int32} : Rm n sh (mm_st M 50 0 0 v) A := by
  obtain ⟨r1, r2, r3, r4, r5, r6⟩ := h
  have k : ∀ a : Nat, a ≠ 50 → mm_st M 50 0 0 v a = M a := fun a ha => st_k ha
  exact ⟨RmD_fr r1 (k _ (by decide)) (k _ (by decide)) (k _ (by decide)) (k _ (by decide)) (k _ (by decide)) (k _ (by decide)) rfl rfl rfl rfl rfl (fun _ _ => rfl) (fun _ _ q => q), RmC_fr r2 (k _ (by decide)) (k _ (by decide)) (k _ (by decide)) (k _ (by decide)) (k _ (by decide)) rfl rfl, RmL_fr r3 (k _ (by decide)) (k _ (by decide)) (k _ (by decide)) (k _ (by decide)) (k _ (by decide)) rfl rfl rfl, RmP_fr r4 (congrFun (congrFun (k _ (by decide)) 0) _) (k _ (by decide)) (k _ (by decide)) (k _ (by decide)) (k _ (by decide)) (k _ (by decide)) (k _ (by decide)) rfl rfl, RmU_fr r5 (k _ (by decide)) rfl, RmF_fr r6 (congrFun (congrFun (k _ (by decide)) 0) _) (k _ (by decide))⟩

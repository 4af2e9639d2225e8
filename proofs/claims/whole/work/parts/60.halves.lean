/-! The store in two halves: the class's kinds, and all others. -/
def jn (C M : mm_M) : mm_M := fun h => if h < 20 then C h else M h
theorem jn_self (g : mm_M) : jn g g = g := by
  funext h
  unfold jn
  split <;> rfl
theorem jn_row_lo {C M : mm_M} {h i : Nat} {w : Nat → Int32} (hh : h < 20) : mm_row (jn C M) h i w = jn (mm_row C h i w) M := by
  funext a b
  by_cases e : a = h ∧ b = i
  · obtain ⟨rfl, rfl⟩ := e
    simp [mm_row, jn, hh]
  · by_cases ha : a < 20 <;> simp [mm_row, jn, e, ha]
theorem jn_row_hi {C M : mm_M} {h i : Nat} {w : Nat → Int32} (hh : ¬ h < 20) : mm_row (jn C M) h i w = jn C (mm_row M h i w) := by
  funext a b
  by_cases e : a = h ∧ b = i
  · obtain ⟨rfl, rfl⟩ := e
    simp [mm_row, jn, hh]
  · by_cases ha : a < 20 <;> simp [mm_row, jn, e, ha]
theorem jn_st_lo {C M : mm_M} {h i j : Nat} {v : Int32} (hh : h < 20) : mm_st (jn C M) h i j v = jn (mm_st C h i j v) M := by
  unfold mm_st
  rw [jn_row_lo hh]
  simp only [jn, hh, if_true]
theorem jn_st_hi {C M : mm_M} {h i j : Nat} {v : Int32} (hh : ¬ h < 20) : mm_st (jn C M) h i j v = jn C (mm_st M h i j v) := by
  unfold mm_st
  rw [jn_row_hi hh]
  simp only [jn, hh, if_false]
theorem st_ap (g : mm_M) (h i j : Nat) (v : Int32) (a b c : Nat) : mm_st g h i j v a b c = if a = h ∧ b = i ∧ c = j then v else g a b c := by
  unfold mm_st mm_row upd
  by_cases e : a = h ∧ b = i
  · obtain ⟨rfl, rfl⟩ := e
    simp
  · have : ¬ (a = h ∧ b = i ∧ c = j) := fun q => e ⟨q.1, q.2.1⟩
    simp [e, this]
theorem st_k {g : mm_M} {h i j : Nat} {v : Int32} {a : Nat} (hn : a ≠ h) : mm_st g h i j v a = g a := by
  funext b c
  rw [st_ap, if_neg (fun q => hn q.1)]
theorem st_o {g : mm_M} {h i j : Nat} {v : Int32} {b : Nat} (hn : b ≠ i) : mm_st g h i j v h b = g h b := by
  funext c
  rw [st_ap, if_neg (fun q => hn q.2.1)]
theorem st_j {g : mm_M} {h i j : Nat} {v : Int32} {c : Nat} (hn : c ≠ j) : mm_st g h i j v h i c = g h i c := by
  rw [st_ap, if_neg (fun q => hn q.2.2)]
theorem st_eq (g : mm_M) (h i j : Nat) (v : Int32) : mm_st g h i j v h i j = v := by
  rw [st_ap, if_pos ⟨rfl, rfl, rfl⟩]
theorem row_k {g : mm_M} {h i : Nat} {w : Nat → Int32} {a : Nat} (hn : a ≠ h) : mm_row g h i w a = g a := by
  funext b
  rw [mm_row_ne (fun q => hn q.1)]
theorem row_self {g : mm_M} {h i : Nat} {w : Nat → Int32} : mm_row g h i w h i = w := mm_row_eq g h i w
theorem row_row (g : mm_M) (h i : Nat) (w w' : Nat → Int32) : mm_row (mm_row g h i w) h i w' = mm_row g h i w' := by
  funext a b
  by_cases e : a = h ∧ b = i <;> simp [mm_row, e]

theorem jn_0 (C M : mm_M) : jn C M 0 = C 0 := rfl
theorem js_0 (C M : mm_M) (i j : Nat) (v : Int32) : mm_st (jn C M) 0 i j v = jn (mm_st C 0 i j v) M := jn_st_lo (by decide)
theorem jr_0 (C M : mm_M) (i : Nat) (w : Nat → Int32) : mm_row (jn C M) 0 i w = jn (mm_row C 0 i w) M := jn_row_lo (by decide)
theorem jn_1 (C M : mm_M) : jn C M 1 = C 1 := rfl
theorem js_1 (C M : mm_M) (i j : Nat) (v : Int32) : mm_st (jn C M) 1 i j v = jn (mm_st C 1 i j v) M := jn_st_lo (by decide)
theorem jr_1 (C M : mm_M) (i : Nat) (w : Nat → Int32) : mm_row (jn C M) 1 i w = jn (mm_row C 1 i w) M := jn_row_lo (by decide)
theorem jn_2 (C M : mm_M) : jn C M 2 = C 2 := rfl
theorem js_2 (C M : mm_M) (i j : Nat) (v : Int32) : mm_st (jn C M) 2 i j v = jn (mm_st C 2 i j v) M := jn_st_lo (by decide)
theorem jr_2 (C M : mm_M) (i : Nat) (w : Nat → Int32) : mm_row (jn C M) 2 i w = jn (mm_row C 2 i w) M := jn_row_lo (by decide)
theorem jn_3 (C M : mm_M) : jn C M 3 = C 3 := rfl
theorem js_3 (C M : mm_M) (i j : Nat) (v : Int32) : mm_st (jn C M) 3 i j v = jn (mm_st C 3 i j v) M := jn_st_lo (by decide)
theorem jr_3 (C M : mm_M) (i : Nat) (w : Nat → Int32) : mm_row (jn C M) 3 i w = jn (mm_row C 3 i w) M := jn_row_lo (by decide)
theorem jn_4 (C M : mm_M) : jn C M 4 = C 4 := rfl
theorem js_4 (C M : mm_M) (i j : Nat) (v : Int32) : mm_st (jn C M) 4 i j v = jn (mm_st C 4 i j v) M := jn_st_lo (by decide)
theorem jr_4 (C M : mm_M) (i : Nat) (w : Nat → Int32) : mm_row (jn C M) 4 i w = jn (mm_row C 4 i w) M := jn_row_lo (by decide)
theorem jn_5 (C M : mm_M) : jn C M 5 = C 5 := rfl
theorem js_5 (C M : mm_M) (i j : Nat) (v : Int32) : mm_st (jn C M) 5 i j v = jn (mm_st C 5 i j v) M := jn_st_lo (by decide)
theorem jr_5 (C M : mm_M) (i : Nat) (w : Nat → Int32) : mm_row (jn C M) 5 i w = jn (mm_row C 5 i w) M := jn_row_lo (by decide)
theorem jn_6 (C M : mm_M) : jn C M 6 = C 6 := rfl
theorem js_6 (C M : mm_M) (i j : Nat) (v : Int32) : mm_st (jn C M) 6 i j v = jn (mm_st C 6 i j v) M := jn_st_lo (by decide)
theorem jr_6 (C M : mm_M) (i : Nat) (w : Nat → Int32) : mm_row (jn C M) 6 i w = jn (mm_row C 6 i w) M := jn_row_lo (by decide)
theorem jn_7 (C M : mm_M) : jn C M 7 = C 7 := rfl
theorem js_7 (C M : mm_M) (i j : Nat) (v : Int32) : mm_st (jn C M) 7 i j v = jn (mm_st C 7 i j v) M := jn_st_lo (by decide)
theorem jr_7 (C M : mm_M) (i : Nat) (w : Nat → Int32) : mm_row (jn C M) 7 i w = jn (mm_row C 7 i w) M := jn_row_lo (by decide)
theorem jn_8 (C M : mm_M) : jn C M 8 = C 8 := rfl
theorem js_8 (C M : mm_M) (i j : Nat) (v : Int32) : mm_st (jn C M) 8 i j v = jn (mm_st C 8 i j v) M := jn_st_lo (by decide)
theorem jr_8 (C M : mm_M) (i : Nat) (w : Nat → Int32) : mm_row (jn C M) 8 i w = jn (mm_row C 8 i w) M := jn_row_lo (by decide)
theorem jn_9 (C M : mm_M) : jn C M 9 = C 9 := rfl
theorem js_9 (C M : mm_M) (i j : Nat) (v : Int32) : mm_st (jn C M) 9 i j v = jn (mm_st C 9 i j v) M := jn_st_lo (by decide)
theorem jr_9 (C M : mm_M) (i : Nat) (w : Nat → Int32) : mm_row (jn C M) 9 i w = jn (mm_row C 9 i w) M := jn_row_lo (by decide)
theorem jn_10 (C M : mm_M) : jn C M 10 = C 10 := rfl
theorem js_10 (C M : mm_M) (i j : Nat) (v : Int32) : mm_st (jn C M) 10 i j v = jn (mm_st C 10 i j v) M := jn_st_lo (by decide)
theorem jr_10 (C M : mm_M) (i : Nat) (w : Nat → Int32) : mm_row (jn C M) 10 i w = jn (mm_row C 10 i w) M := jn_row_lo (by decide)
theorem jn_11 (C M : mm_M) : jn C M 11 = C 11 := rfl
theorem js_11 (C M : mm_M) (i j : Nat) (v : Int32) : mm_st (jn C M) 11 i j v = jn (mm_st C 11 i j v) M := jn_st_lo (by decide)
theorem jr_11 (C M : mm_M) (i : Nat) (w : Nat → Int32) : mm_row (jn C M) 11 i w = jn (mm_row C 11 i w) M := jn_row_lo (by decide)
theorem jn_12 (C M : mm_M) : jn C M 12 = C 12 := rfl
theorem js_12 (C M : mm_M) (i j : Nat) (v : Int32) : mm_st (jn C M) 12 i j v = jn (mm_st C 12 i j v) M := jn_st_lo (by decide)
theorem jr_12 (C M : mm_M) (i : Nat) (w : Nat → Int32) : mm_row (jn C M) 12 i w = jn (mm_row C 12 i w) M := jn_row_lo (by decide)
theorem jn_13 (C M : mm_M) : jn C M 13 = C 13 := rfl
theorem js_13 (C M : mm_M) (i j : Nat) (v : Int32) : mm_st (jn C M) 13 i j v = jn (mm_st C 13 i j v) M := jn_st_lo (by decide)
theorem jr_13 (C M : mm_M) (i : Nat) (w : Nat → Int32) : mm_row (jn C M) 13 i w = jn (mm_row C 13 i w) M := jn_row_lo (by decide)
theorem jn_14 (C M : mm_M) : jn C M 14 = C 14 := rfl
theorem js_14 (C M : mm_M) (i j : Nat) (v : Int32) : mm_st (jn C M) 14 i j v = jn (mm_st C 14 i j v) M := jn_st_lo (by decide)
theorem jr_14 (C M : mm_M) (i : Nat) (w : Nat → Int32) : mm_row (jn C M) 14 i w = jn (mm_row C 14 i w) M := jn_row_lo (by decide)
theorem jn_15 (C M : mm_M) : jn C M 15 = C 15 := rfl
theorem js_15 (C M : mm_M) (i j : Nat) (v : Int32) : mm_st (jn C M) 15 i j v = jn (mm_st C 15 i j v) M := jn_st_lo (by decide)
theorem jr_15 (C M : mm_M) (i : Nat) (w : Nat → Int32) : mm_row (jn C M) 15 i w = jn (mm_row C 15 i w) M := jn_row_lo (by decide)
theorem jn_16 (C M : mm_M) : jn C M 16 = C 16 := rfl
theorem js_16 (C M : mm_M) (i j : Nat) (v : Int32) : mm_st (jn C M) 16 i j v = jn (mm_st C 16 i j v) M := jn_st_lo (by decide)
theorem jr_16 (C M : mm_M) (i : Nat) (w : Nat → Int32) : mm_row (jn C M) 16 i w = jn (mm_row C 16 i w) M := jn_row_lo (by decide)
theorem jn_20 (C M : mm_M) : jn C M 20 = M 20 := rfl
theorem js_20 (C M : mm_M) (i j : Nat) (v : Int32) : mm_st (jn C M) 20 i j v = jn C (mm_st M 20 i j v) := jn_st_hi (by decide)
theorem jn_21 (C M : mm_M) : jn C M 21 = M 21 := rfl
theorem js_21 (C M : mm_M) (i j : Nat) (v : Int32) : mm_st (jn C M) 21 i j v = jn C (mm_st M 21 i j v) := jn_st_hi (by decide)
theorem jn_22 (C M : mm_M) : jn C M 22 = M 22 := rfl
theorem js_22 (C M : mm_M) (i j : Nat) (v : Int32) : mm_st (jn C M) 22 i j v = jn C (mm_st M 22 i j v) := jn_st_hi (by decide)
theorem jn_23 (C M : mm_M) : jn C M 23 = M 23 := rfl
theorem js_23 (C M : mm_M) (i j : Nat) (v : Int32) : mm_st (jn C M) 23 i j v = jn C (mm_st M 23 i j v) := jn_st_hi (by decide)
theorem jn_24 (C M : mm_M) : jn C M 24 = M 24 := rfl
theorem js_24 (C M : mm_M) (i j : Nat) (v : Int32) : mm_st (jn C M) 24 i j v = jn C (mm_st M 24 i j v) := jn_st_hi (by decide)
theorem jn_25 (C M : mm_M) : jn C M 25 = M 25 := rfl
theorem js_25 (C M : mm_M) (i j : Nat) (v : Int32) : mm_st (jn C M) 25 i j v = jn C (mm_st M 25 i j v) := jn_st_hi (by decide)
theorem jn_26 (C M : mm_M) : jn C M 26 = M 26 := rfl
theorem js_26 (C M : mm_M) (i j : Nat) (v : Int32) : mm_st (jn C M) 26 i j v = jn C (mm_st M 26 i j v) := jn_st_hi (by decide)
theorem jn_27 (C M : mm_M) : jn C M 27 = M 27 := rfl
theorem js_27 (C M : mm_M) (i j : Nat) (v : Int32) : mm_st (jn C M) 27 i j v = jn C (mm_st M 27 i j v) := jn_st_hi (by decide)
theorem jn_28 (C M : mm_M) : jn C M 28 = M 28 := rfl
theorem js_28 (C M : mm_M) (i j : Nat) (v : Int32) : mm_st (jn C M) 28 i j v = jn C (mm_st M 28 i j v) := jn_st_hi (by decide)
theorem jn_29 (C M : mm_M) : jn C M 29 = M 29 := rfl
theorem js_29 (C M : mm_M) (i j : Nat) (v : Int32) : mm_st (jn C M) 29 i j v = jn C (mm_st M 29 i j v) := jn_st_hi (by decide)
theorem jn_30 (C M : mm_M) : jn C M 30 = M 30 := rfl
theorem js_30 (C M : mm_M) (i j : Nat) (v : Int32) : mm_st (jn C M) 30 i j v = jn C (mm_st M 30 i j v) := jn_st_hi (by decide)
theorem jn_31 (C M : mm_M) : jn C M 31 = M 31 := rfl
theorem js_31 (C M : mm_M) (i j : Nat) (v : Int32) : mm_st (jn C M) 31 i j v = jn C (mm_st M 31 i j v) := jn_st_hi (by decide)
theorem jn_32 (C M : mm_M) : jn C M 32 = M 32 := rfl
theorem js_32 (C M : mm_M) (i j : Nat) (v : Int32) : mm_st (jn C M) 32 i j v = jn C (mm_st M 32 i j v) := jn_st_hi (by decide)
theorem jn_33 (C M : mm_M) : jn C M 33 = M 33 := rfl
theorem js_33 (C M : mm_M) (i j : Nat) (v : Int32) : mm_st (jn C M) 33 i j v = jn C (mm_st M 33 i j v) := jn_st_hi (by decide)
theorem jn_34 (C M : mm_M) : jn C M 34 = M 34 := rfl
theorem js_34 (C M : mm_M) (i j : Nat) (v : Int32) : mm_st (jn C M) 34 i j v = jn C (mm_st M 34 i j v) := jn_st_hi (by decide)
theorem jn_35 (C M : mm_M) : jn C M 35 = M 35 := rfl
theorem js_35 (C M : mm_M) (i j : Nat) (v : Int32) : mm_st (jn C M) 35 i j v = jn C (mm_st M 35 i j v) := jn_st_hi (by decide)
theorem jn_36 (C M : mm_M) : jn C M 36 = M 36 := rfl
theorem js_36 (C M : mm_M) (i j : Nat) (v : Int32) : mm_st (jn C M) 36 i j v = jn C (mm_st M 36 i j v) := jn_st_hi (by decide)
theorem jn_37 (C M : mm_M) : jn C M 37 = M 37 := rfl
theorem js_37 (C M : mm_M) (i j : Nat) (v : Int32) : mm_st (jn C M) 37 i j v = jn C (mm_st M 37 i j v) := jn_st_hi (by decide)
theorem jn_38 (C M : mm_M) : jn C M 38 = M 38 := rfl
theorem js_38 (C M : mm_M) (i j : Nat) (v : Int32) : mm_st (jn C M) 38 i j v = jn C (mm_st M 38 i j v) := jn_st_hi (by decide)
theorem jn_39 (C M : mm_M) : jn C M 39 = M 39 := rfl
theorem js_39 (C M : mm_M) (i j : Nat) (v : Int32) : mm_st (jn C M) 39 i j v = jn C (mm_st M 39 i j v) := jn_st_hi (by decide)
theorem jn_40 (C M : mm_M) : jn C M 40 = M 40 := rfl
theorem js_40 (C M : mm_M) (i j : Nat) (v : Int32) : mm_st (jn C M) 40 i j v = jn C (mm_st M 40 i j v) := jn_st_hi (by decide)
theorem jn_41 (C M : mm_M) : jn C M 41 = M 41 := rfl
theorem js_41 (C M : mm_M) (i j : Nat) (v : Int32) : mm_st (jn C M) 41 i j v = jn C (mm_st M 41 i j v) := jn_st_hi (by decide)
theorem jn_42 (C M : mm_M) : jn C M 42 = M 42 := rfl
theorem js_42 (C M : mm_M) (i j : Nat) (v : Int32) : mm_st (jn C M) 42 i j v = jn C (mm_st M 42 i j v) := jn_st_hi (by decide)
theorem jn_43 (C M : mm_M) : jn C M 43 = M 43 := rfl
theorem js_43 (C M : mm_M) (i j : Nat) (v : Int32) : mm_st (jn C M) 43 i j v = jn C (mm_st M 43 i j v) := jn_st_hi (by decide)
theorem jn_44 (C M : mm_M) : jn C M 44 = M 44 := rfl
theorem js_44 (C M : mm_M) (i j : Nat) (v : Int32) : mm_st (jn C M) 44 i j v = jn C (mm_st M 44 i j v) := jn_st_hi (by decide)
theorem jn_50 (C M : mm_M) : jn C M 50 = M 50 := rfl
theorem js_50 (C M : mm_M) (i j : Nat) (v : Int32) : mm_st (jn C M) 50 i j v = jn C (mm_st M 50 i j v) := jn_st_hi (by decide)
/-! the ways out of a call -/
theorem bd_0 {α β : Type} (v : α) (g : mm_M) (d : β) (k : α → mm_M → Option (Nat × β × mm_M)) : mm_bd (some (0, v, g)) d k = k v g := rfl
theorem bd_1 {α β : Type} (v : α) (g : mm_M) (d : β) (k : α → mm_M → Option (Nat × β × mm_M)) : mm_bd (some (1, v, g)) d k = some (1, d, g) := rfl
theorem bd_2 {α β : Type} (v : α) (g : mm_M) (d : β) (k : α → mm_M → Option (Nat × β × mm_M)) : mm_bd (some (2, v, g)) d k = some (2, d, g) := rfl
theorem bd_3 {α β : Type} (v : α) (g : mm_M) (d : β) (k : α → mm_M → Option (Nat × β × mm_M)) : mm_bd (some (3, v, g)) d k = some (3, d, g) := rfl
theorem tc_0 {α β : Type} (v : α) (g : mm_M) (k : α → mm_M → Option β) (hd : Nat → mm_M → Option β) : mm_tc (some (0, v, g)) k hd = k v g := rfl
theorem tc_1 {α β : Type} (v : α) (g : mm_M) (k : α → mm_M → Option β) (hd : Nat → mm_M → Option β) : mm_tc (some (1, v, g)) k hd = hd 1 g := rfl
theorem tc_2 {α β : Type} (v : α) (g : mm_M) (k : α → mm_M → Option β) (hd : Nat → mm_M → Option β) : mm_tc (some (2, v, g)) k hd = hd 2 g := rfl
theorem tc_3 {α β : Type} (v : α) (g : mm_M) (k : α → mm_M → Option β) (hd : Nat → mm_M → Option β) : mm_tc (some (3, v, g)) k hd = hd 3 g := rfl
theorem ob_s {α β : Type} (v : α) (g : mm_M) (k : α → mm_M → Option β) : mm_ob (some (v, g)) k = k v g := rfl
theorem let_e {α β : Type} (x : α) (k : α → β) : mm_let x k = k x := rfl
theorem nz_0 {α : Type} (k : Option α) : mm_nz 0 k = k := rfl
theorem nz_1 {α : Type} (k : Option α) : mm_nz 1 k = k := rfl
theorem nz_n0 {α : Type} (k : Option α) : mm_nz (nI 0) k = k := rfl
theorem nz_n1 {α : Type} (k : Option α) : mm_nz (nI 1) k = k := rfl
def nN : Int32 := -1
theorem nl_m : (-1 : Int32) = nN := rfl
theorem nl_m2 : -(nI 1) = nN := by decide
theorem nar_0 : vp_nar .boolean (nI 0) = nI 0 := rfl
theorem nar_1 : vp_nar .boolean (nI 1) = nI 1 := rfl
theorem ix_n {α : Type} {a N : Nat} {k : Option α} (h : a < N) (hN : N < 2147483648) : mm_ix (nI a) N k = k := by
  unfold mm_ix
  exact if_neg (nI_in h hN)

theorem nl_0 : (0 : Int32) = nI 0 := rfl
theorem nl_1 : (1 : Int32) = nI 1 := rfl
theorem nl_2 : (2 : Int32) = nI 2 := rfl
theorem nl_3 : (3 : Int32) = nI 3 := rfl
theorem nl_4 : (4 : Int32) = nI 4 := rfl
theorem nl_5 : (5 : Int32) = nI 5 := rfl
theorem nl_6 : (6 : Int32) = nI 6 := rfl
theorem nl_7 : (7 : Int32) = nI 7 := rfl
theorem nl_8 : (8 : Int32) = nI 8 := rfl
theorem nl_9 : (9 : Int32) = nI 9 := rfl
theorem nl_10 : (10 : Int32) = nI 10 := rfl
theorem nl_11 : (11 : Int32) = nI 11 := rfl
theorem nl_12 : (12 : Int32) = nI 12 := rfl
theorem nl_16 : (16 : Int32) = nI 16 := rfl
theorem nl_40 : (40 : Int32) = nI 40 := rfl
theorem nl_64 : (64 : Int32) = nI 64 := rfl
theorem nl_200 : (200 : Int32) = nI 200 := rfl
theorem nl_1000 : (1000 : Int32) = nI 1000 := rfl
theorem nI_cl {n : Nat} (h : n < 2147483648) : (nI n).toNatClampNeg = n := nI_clamp h
theorem nI_E {a b : Nat} (ha : a < 2147483648) (hb : b < 2147483648) : nI a = nI b ↔ a = b := nI_eq ha hb
theorem nI_L {a b : Nat} (ha : a < 2147483648) (hb : b < 2147483648) : nI a ≤ nI b ↔ a ≤ b := nI_leI ha hb
theorem nI_T {a b : Nat} (ha : a < 2147483648) (hb : b < 2147483648) : nI a < nI b ↔ a < b := nI_ltI ha hb
theorem nI_m {n : Nat} (h : n < 2147483648) : nI n = nN ↔ False := by
  unfold nN
  refine ⟨fun e => ?_, fun e => e.elim⟩
  have h1 := congrArg Int32.toInt e
  rw [nI_toInt h] at h1
  have h2 : (-1 : Int32).toInt = -1 := by decide
  omega
theorem nI_m' {n : Nat} (h : n < 2147483648) : nN = nI n ↔ False := ⟨fun e => (nI_m h).mp e.symm, fun e => e.elim⟩
theorem nI_ng {n : Nat} (h : n < 2147483648) : nI n < nI 0 ↔ False := ⟨fun e => nI_pos h e, fun e => e.elim⟩
theorem nN_lt {n : Nat} (h : n < 2147483648) : nN < nI n ↔ True := by
  refine ⟨fun _ => trivial, fun _ => Int32.lt_iff_toInt_lt.mpr ?_⟩
  rw [nI_toInt h]
  have h2 : nN.toInt = -1 := by decide
  omega
theorem nN_le {n : Nat} (h : n < 2147483648) : nI n ≤ nN ↔ False := by
  refine ⟨fun e => ?_, fun e => e.elim⟩
  have e := Int32.le_iff_toInt_le.mp e
  rw [nI_toInt h] at e
  have h2 : nN.toInt = -1 := by decide
  omega
theorem nI_S {a b : Nat} (h : b ≤ a) : nI a - nI b = nI (a - b) := pk_sub h
theorem nI_R4 {a : Nat} (h : a < 2147483648) : nI a - nI a / nI 4 * nI 4 = nI (a % 4) := pk_rem h (by decide) (by decide)
theorem nI_R64 {a : Nat} (h : a < 2147483648) : nI a - nI a / nI 64 * nI 64 = nI (a % 64) := pk_rem h (by decide) (by decide)
theorem nI_32 (n : Nat) : Int32.ofNat n = nI n := rfl
theorem ix_tri (x : Int32) (n : Nat) (hn : n < 2147483648) : (x < 0) ∨ (nI n ≤ x ∧ ¬ x < 0) ∨ ∃ j : Nat, j < n ∧ x = nI j := by
  rcases pk_ix x (n := n) hn with h | h | h
  · exact Or.inl h
  · by_cases h0 : x < 0
    · exact Or.inl h0
    · exact Or.inr (Or.inl ⟨h, h0⟩)
  · exact Or.inr (Or.inr h)

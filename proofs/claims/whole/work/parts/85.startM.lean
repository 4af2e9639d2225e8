/-! the reference is made -/
def js (h : Nat) : Nat := if h ≤ 38 then h - 19 else h - 18
def MK (k : Nat) (g : mm_M) : Prop := (∀ h, 21 ≤ h → h < 21 + k → g h 0 = rZ ∧ g 20 0 (js h) = 1) ∧ g 20 0 0 = 0 ∧ g 20 0 1 = 0 ∧ g 20 0 20 = 0
theorem js_ne {h : Nat} (h1 : 21 ≤ h) : js h ≠ 0 ∧ js h ≠ 1 ∧ js h ≠ 20 := by
  unfold js
  split <;> omega
theorem MK_S (k : Nat) {g : mm_M} (h : MK k g) : MK (k + 1) (mm_st (mm_row g (21 + k) 0 (fun _ => 0)) 20 0 (js (21 + k)) 1) := by
  obtain ⟨a, b0, b1, b2⟩ := h
  have ne := js_ne (h := 21 + k) (by omega)
  have r20 : ∀ j, mm_row g (21 + k) 0 (fun _ => 0) 20 0 j = g 20 0 j := fun j => by rw [row_k (by omega)]
  refine ⟨fun h h1 h2 => ⟨?_, ?_⟩, ?_, ?_, ?_⟩
  · rw [st_k (by omega)]
    by_cases e : h = 21 + k
    · subst e
      rw [row_self]
      rfl
    · rw [row_k e]
      exact (a h h1 (by omega)).1
  · rw [st_ap]
    by_cases e : h = 21 + k
    · subst e
      rw [if_pos ⟨rfl, rfl, rfl⟩]
    · by_cases e2 : js h = js (21 + k)
      · rw [if_pos ⟨rfl, rfl, e2⟩]
      · rw [if_neg (fun q => e2 q.2.2), r20]
        exact (a h h1 (by omega)).2
  · rw [st_j (Ne.symm ne.1), r20, b0]
  · rw [st_j (Ne.symm ne.2.1), r20, b1]
  · rw [st_j (Ne.symm ne.2.2), r20, b2]
theorem MK_o (k j : Nat) (g : mm_M) (h : Nat) (hh : h < 20) : mm_st (mm_row g (21 + k) 0 (fun _ => 0)) 20 0 j 1 h = g h := by
  rw [st_k (by omega), row_k (by omega)]
theorem i_Mo30 {b n zm ym : Nat} : ∀ (K r c : Nat) (g : mm_M) (z y : Nat), c + r = 3 → r < K → b + 28 + 12 * n < z → g 20 0 11 = 1 → ∃ g', v_Mo_init_l272 n (adr b n) zm ym K g z y (nI c) = some (g', z, y) ∧ (∀ j, g' 30 0 j = if c ≤ j ∧ j < 3 then -1 else g 30 0 j) ∧ ∀ h, h ≠ 30 → g' h = g h := by
  intro K
  induction K with
  | zero =>
    intro r c g z y _ h2
    omega
  | succ K ih =>
    intro r c g z y hs hr hz h5
    rw [v_Mo_init_l272]
    cases r with
    | zero =>
      rw [if_pos (show (3 : Int32) ≤ nI c from (nI_L (a := 3) (by omega) (by omega)).mpr (by omega))]
      refine ⟨g, rfl, fun j => ?_, fun h _ => rfl⟩
      rw [if_neg (by omega)]
    | succ r =>
      have e : ¬ (3 : Int32) ≤ nI c := fun q => by
        have := (nI_L (a := 3) (by omega) (by omega)).mp q
        omega
      rw [if_neg e, nn_1 h5, lt_t (by rw [adr_30]; omega), ix_n (by omega) (by omega), nI_cl (by omega), let_e, nI_s1]
      obtain ⟨g', f1, f2, f3⟩ := ih r (c + 1) (mm_st g 30 0 c (-1)) z y (by omega) (by omega) hz (by rw [st_k (by decide)]; exact h5)
      refine ⟨g', f1, fun j => ?_, fun h a1 => by rw [f3 h a1, st_k a1]⟩
      rw [f2 j, st_ap]
      by_cases h1 : c + 1 ≤ j ∧ j < 3
      · rw [if_pos h1, if_pos (by omega)]
      · by_cases h2 : j = c
        · rw [if_neg h1, if_pos ⟨rfl, rfl, h2⟩, if_pos (by omega)]
        · rw [if_neg h1, if_neg (fun q => h2 q.2.2), if_neg (by omega)]
theorem pMo_all : ∀ l : Fin 12, l.val = 0 ∨ (nI l.val - 1 = pr3 1 l.val ∧ 0 = pr3 2 l.val ∧ (nI l.val - 1) / 2 = pr3 0 l.val) := by decide +kernel
theorem i_Mo21 {b n zm ym sh : Nat} {x2 : Int32} (q2 : (x2 = 1 ∧ sh = 1) ∨ (x2 ≠ 1 ∧ x2 = 2 ∧ sh = 2) ∨ (x2 ≠ 1 ∧ x2 ≠ 2 ∧ sh = 0)) : ∀ (K r l : Nat) (g : mm_M) (z y : Nat), l + r = 12 → r < K → b + 28 + 12 * n < z → g 20 0 2 = 1 → g 20 0 11 = 1 → ∃ g', v_Mo_init_l219 n (adr b n) zm ym K g z y x2 (nI l) = some (g', z, y) ∧ (∀ j, g' 21 0 j = if l ≤ j ∧ j < 12 then pr3 sh j else g 21 0 j) ∧ (∀ j, j < 3 → g' 30 0 j = -1) ∧ ∀ h, h ≠ 21 → h ≠ 30 → g' h = g h := by
  intro K
  induction K with
  | zero =>
    intro r l g z y _ h2
    omega
  | succ K ih =>
    intro r l g z y hs hr hz h5 h6
    rw [v_Mo_init_l219]
    cases r with
    | zero =>
      rw [if_pos (show (12 : Int32) ≤ nI l from (nI_L (a := 12) (by omega) (by omega)).mpr (by omega))]
      obtain ⟨g', f1, f2, f3⟩ := i_Mo30 (b := b) (n := n) (zm := zm) (ym := ym) 4096 3 0 g z y (by omega) (by omega) hz h6
      refine ⟨g', f1, fun j => ?_, fun j hj => by rw [f2 j, if_pos ⟨Nat.zero_le _, hj⟩], fun h _ a => f3 h a⟩
      rw [if_neg (by omega), f3 21 (by decide)]
    | succ r =>
      have e : ¬ (12 : Int32) ≤ nI l := fun q => by
        have := (nI_L (a := 12) (by omega) (by omega)).mp q
        omega
      have key : ∃ g', v_Mo_init_l219 n (adr b n) zm ym K (mm_st g 21 0 l (pr3 sh l)) z y x2 (nI (l + 1)) = some (g', z, y) ∧ (∀ j, g' 21 0 j = if l ≤ j ∧ j < 12 then pr3 sh j else g 21 0 j) ∧ (∀ j, j < 3 → g' 30 0 j = -1) ∧ ∀ h, h ≠ 21 → h ≠ 30 → g' h = g h := by
        obtain ⟨g', f1, f2, f3, f4⟩ := ih r (l + 1) (mm_st g 21 0 l (pr3 sh l)) z y (by omega) (by omega) hz (by rw [st_k (by decide)]; exact h5) (by rw [st_k (by decide)]; exact h6)
        refine ⟨g', f1, fun j => ?_, f3, fun h a1 a2 => by rw [f4 h a1 a2, st_k a1]⟩
        rw [f2 j, st_ap]
        by_cases h1 : l + 1 ≤ j ∧ j < 12
        · rw [if_pos h1, if_pos (by omega)]
        · by_cases h2 : j = l
          · rw [if_neg h1, if_pos ⟨rfl, rfl, h2⟩, if_pos (by omega), h2]
          · rw [if_neg h1, if_neg (fun q => h2 q.2.2), if_neg (by omega)]
      rw [if_neg e, nn_1 h5, lt_t (by rw [adr_21]; omega), nI_cl (by omega), nI_s1]
      by_cases e0 : l = 0
      · subst e0
        rw [if_pos (show nI 0 = (0 : Int32) from rfl), ix_n (by decide) (by decide), let_e]
        exact key
      · have e1 : ¬ nI l = (0 : Int32) := fun q => e0 ((nI_E (b := 0) (by omega) (by decide)).mp q)
        obtain ⟨p1, p2, p3⟩ := (pMo_all ⟨l, by omega⟩).resolve_left e0
        have p1 : nI l - 1 = pr3 1 l := p1
        have p2 : 0 = pr3 2 l := p2
        have p3 : (nI l - 1) / 2 = pr3 0 l := p3
        rw [if_neg e1]
        rcases q2 with ⟨a1, rfl⟩ | ⟨a1, a2, rfl⟩ | ⟨a1, a2, rfl⟩
        · rw [if_pos a1, ix_n (by omega) (by decide), let_e, p1]
          exact key
        · rw [if_neg a1, if_pos a2, ix_n (by omega) (by decide), let_e, p2]
          exact key
        · rw [if_neg a1, if_neg a2, ix_n (by omega) (by decide), let_e, p3]
          exact key
def E1 (n sh : Nat) (g : mm_M) : Prop := g 20 0 0 = 0 ∧ g 20 0 1 = nI n ∧ g 20 0 20 = 0 ∧ (∀ h, 21 ≤ h → h < 45 → g 20 0 (js h) = 1) ∧ (∀ j, j < 12 → g 21 0 j = pr3 sh j) ∧ (∀ j, j < 3 → g 30 0 j = -1) ∧ ∀ h, 21 ≤ h → h < 45 → h ≠ 21 → h ≠ 30 → g h 0 = rZ
theorem i_Mo {b n zm ym sh : Nat} (hn : n ≤ 12) {g : mm_M} {x1 x2 : Int32} {y z : Nat} (hz : z = b + 19 + 12 * n) (hz0 : b + 43 + 12 * n ≤ zm) (hy : y + 5000 ≤ ym) (h0 : g 20 0 = rZ) (q1 : (x1 < 2 ∧ n = 6) ∨ (¬ x1 < 2 ∧ 12 < x1 ∧ ¬ x1 ≤ 12 ∧ n = 6) ∨ (¬ x1 < 2 ∧ ¬ 12 < x1 ∧ x1 ≤ 12 ∧ x1 = nI n)) (q2 : (x2 = 1 ∧ sh = 1) ∨ (x2 ≠ 1 ∧ x2 = 2 ∧ sh = 2) ∨ (x2 ≠ 1 ∧ x2 ≠ 2 ∧ sh = 0)) : ∃ (g' : mm_M) (y' : Nat), v_Mo_init n (adr b n) zm ym g z y x1 x2 = some (g', b + 43 + 12 * n, y') ∧ y' ≤ y + 5000 ∧ E1 n sh g' ∧ ∀ h, h < 20 → g' h = g h := by
  have m0 : MK 0 g := ⟨fun h h1 h2 => by omega, by rw [h0]; rfl, by rw [h0]; rfl, by rw [h0]; rfl⟩
  have o0 : ∀ h, h < 20 → g h = g h := fun h _ => rfl
  unfold v_Mo_init
  rw [ln_t (by rfl) (by decide), al_t (by rw [adr_21]; omega) (by omega) (by omega), let_e, let_e]
  obtain ⟨g1, e1⟩ : ∃ G, G = mm_st (mm_row g 21 0 (fun _ => 0)) 20 0 2 1 := ⟨_, rfl⟩
  rw [← e1]
  have m1 : MK 1 g1 := by
    rw [e1]
    exact MK_S 0 m0
  have o1 : ∀ h, h < 20 → g1 h = g h := fun h hh => by rw [e1, MK_o 0 2 g h hh, o0 h hh]
  clear e1 m0 o0
  unfold v_Mo_init_b12
  rw [ln_t (by rfl) (by decide), al_t (by rw [adr_22]; omega) (by omega) (by omega), let_e, let_e]
  obtain ⟨g2, e2⟩ : ∃ G, G = mm_st (mm_row g1 22 0 (fun _ => 0)) 20 0 3 1 := ⟨_, rfl⟩
  rw [← e2]
  have m2 : MK 2 g2 := by
    rw [e2]
    exact MK_S 1 m1
  have o2 : ∀ h, h < 20 → g2 h = g h := fun h hh => by rw [e2, MK_o 1 3 g1 h hh, o1 h hh]
  clear e2 m1 o1
  rw [ln_t (by rfl) (by decide), al_t (by rw [adr_23]; omega) (by omega) (by omega), let_e, let_e]
  obtain ⟨g3, e3⟩ : ∃ G, G = mm_st (mm_row g2 23 0 (fun _ => 0)) 20 0 4 1 := ⟨_, rfl⟩
  rw [← e3]
  have m3 : MK 3 g3 := by
    rw [e3]
    exact MK_S 2 m2
  have o3 : ∀ h, h < 20 → g3 h = g h := fun h hh => by rw [e3, MK_o 2 4 g2 h hh, o2 h hh]
  clear e3 m2 o2
  unfold v_Mo_init_b27
  rw [ln_t (by rfl) (by decide), al_t (by rw [adr_24]; omega) (by omega) (by omega), let_e, let_e]
  obtain ⟨g4, e4⟩ : ∃ G, G = mm_st (mm_row g3 24 0 (fun _ => 0)) 20 0 5 1 := ⟨_, rfl⟩
  rw [← e4]
  have m4 : MK 4 g4 := by
    rw [e4]
    exact MK_S 3 m3
  have o4 : ∀ h, h < 20 → g4 h = g h := fun h hh => by rw [e4, MK_o 3 5 g3 h hh, o3 h hh]
  clear e4 m3 o3
  rw [ln_t (by rfl) (by decide), al_t (by rw [adr_25]; omega) (by omega) (by omega), let_e, let_e]
  obtain ⟨g5, e5⟩ : ∃ G, G = mm_st (mm_row g4 25 0 (fun _ => 0)) 20 0 6 1 := ⟨_, rfl⟩
  rw [← e5]
  have m5 : MK 5 g5 := by
    rw [e5]
    exact MK_S 4 m4
  have o5 : ∀ h, h < 20 → g5 h = g h := fun h hh => by rw [e5, MK_o 4 6 g4 h hh, o4 h hh]
  clear e5 m4 o4
  unfold v_Mo_init_b43
  rw [ln_t (by rfl) (by decide), al_t (by rw [adr_26]; omega) (by omega) (by omega), let_e, let_e]
  obtain ⟨g6, e6⟩ : ∃ G, G = mm_st (mm_row g5 26 0 (fun _ => 0)) 20 0 7 1 := ⟨_, rfl⟩
  rw [← e6]
  have m6 : MK 6 g6 := by
    rw [e6]
    exact MK_S 5 m5
  have o6 : ∀ h, h < 20 → g6 h = g h := fun h hh => by rw [e6, MK_o 5 7 g5 h hh, o5 h hh]
  clear e6 m5 o5
  rw [ln_t (by rfl) (by decide), al_t (by rw [adr_27]; omega) (by omega) (by omega), let_e, let_e]
  obtain ⟨g7, e7⟩ : ∃ G, G = mm_st (mm_row g6 27 0 (fun _ => 0)) 20 0 8 1 := ⟨_, rfl⟩
  rw [← e7]
  have m7 : MK 7 g7 := by
    rw [e7]
    exact MK_S 6 m6
  have o7 : ∀ h, h < 20 → g7 h = g h := fun h hh => by rw [e7, MK_o 6 8 g6 h hh, o6 h hh]
  clear e7 m6 o6
  unfold v_Mo_init_b59
  rw [ln_t (by rfl) (by decide), al_t (by rw [adr_28]; omega) (by omega) (by omega), let_e, let_e]
  obtain ⟨g8, e8⟩ : ∃ G, G = mm_st (mm_row g7 28 0 (fun _ => 0)) 20 0 9 1 := ⟨_, rfl⟩
  rw [← e8]
  have m8 : MK 8 g8 := by
    rw [e8]
    exact MK_S 7 m7
  have o8 : ∀ h, h < 20 → g8 h = g h := fun h hh => by rw [e8, MK_o 7 9 g7 h hh, o7 h hh]
  clear e8 m7 o7
  rw [ln_t (by rfl) (by decide), al_t (by rw [adr_29]; omega) (by omega) (by omega), let_e, let_e]
  obtain ⟨g9, e9⟩ : ∃ G, G = mm_st (mm_row g8 29 0 (fun _ => 0)) 20 0 10 1 := ⟨_, rfl⟩
  rw [← e9]
  have m9 : MK 9 g9 := by
    rw [e9]
    exact MK_S 8 m8
  have o9 : ∀ h, h < 20 → g9 h = g h := fun h hh => by rw [e9, MK_o 8 10 g8 h hh, o8 h hh]
  clear e9 m8 o8
  unfold v_Mo_init_b76
  rw [ln_t (by rfl) (by decide), al_t (by rw [adr_30]; omega) (by omega) (by omega), let_e, let_e]
  obtain ⟨g10, e10⟩ : ∃ G, G = mm_st (mm_row g9 30 0 (fun _ => 0)) 20 0 11 1 := ⟨_, rfl⟩
  rw [← e10]
  have m10 : MK 10 g10 := by
    rw [e10]
    exact MK_S 9 m9
  have o10 : ∀ h, h < 20 → g10 h = g h := fun h hh => by rw [e10, MK_o 9 11 g9 h hh, o9 h hh]
  clear e10 m9 o9
  rw [ln_t (by rfl) (by decide), al_t (by rw [adr_31]; omega) (by omega) (by omega), let_e, let_e]
  obtain ⟨g11, e11⟩ : ∃ G, G = mm_st (mm_row g10 31 0 (fun _ => 0)) 20 0 12 1 := ⟨_, rfl⟩
  rw [← e11]
  have m11 : MK 11 g11 := by
    rw [e11]
    exact MK_S 10 m10
  have o11 : ∀ h, h < 20 → g11 h = g h := fun h hh => by rw [e11, MK_o 10 12 g10 h hh, o10 h hh]
  clear e11 m10 o10
  unfold v_Mo_init_b90
  rw [ln_t (by rfl) (by decide), al_t (by rw [adr_32]; omega) (by omega) (by omega), let_e, let_e]
  obtain ⟨g12, e12⟩ : ∃ G, G = mm_st (mm_row g11 32 0 (fun _ => 0)) 20 0 13 1 := ⟨_, rfl⟩
  rw [← e12]
  have m12 : MK 12 g12 := by
    rw [e12]
    exact MK_S 11 m11
  have o12 : ∀ h, h < 20 → g12 h = g h := fun h hh => by rw [e12, MK_o 11 13 g11 h hh, o11 h hh]
  clear e12 m11 o11
  rw [ln_t (by rfl) (by decide), al_t (by rw [adr_33]; omega) (by omega) (by omega), let_e, let_e]
  obtain ⟨g13, e13⟩ : ∃ G, G = mm_st (mm_row g12 33 0 (fun _ => 0)) 20 0 14 1 := ⟨_, rfl⟩
  rw [← e13]
  have m13 : MK 13 g13 := by
    rw [e13]
    exact MK_S 12 m12
  have o13 : ∀ h, h < 20 → g13 h = g h := fun h hh => by rw [e13, MK_o 12 14 g12 h hh, o12 h hh]
  clear e13 m12 o12
  unfold v_Mo_init_b106
  rw [ln_t (by rfl) (by decide), al_t (by rw [adr_34]; omega) (by omega) (by omega), let_e, let_e]
  obtain ⟨g14, e14⟩ : ∃ G, G = mm_st (mm_row g13 34 0 (fun _ => 0)) 20 0 15 1 := ⟨_, rfl⟩
  rw [← e14]
  have m14 : MK 14 g14 := by
    rw [e14]
    exact MK_S 13 m13
  have o14 : ∀ h, h < 20 → g14 h = g h := fun h hh => by rw [e14, MK_o 13 15 g13 h hh, o13 h hh]
  clear e14 m13 o13
  rw [ln_t (by rfl) (by decide), al_t (by rw [adr_35]; omega) (by omega) (by omega), let_e, let_e]
  obtain ⟨g15, e15⟩ : ∃ G, G = mm_st (mm_row g14 35 0 (fun _ => 0)) 20 0 16 1 := ⟨_, rfl⟩
  rw [← e15]
  have m15 : MK 15 g15 := by
    rw [e15]
    exact MK_S 14 m14
  have o15 : ∀ h, h < 20 → g15 h = g h := fun h hh => by rw [e15, MK_o 14 16 g14 h hh, o14 h hh]
  clear e15 m14 o14
  unfold v_Mo_init_b122
  rw [ln_t (by rfl) (by decide), al_t (by rw [adr_36]; omega) (by omega) (by omega), let_e, let_e]
  obtain ⟨g16, e16⟩ : ∃ G, G = mm_st (mm_row g15 36 0 (fun _ => 0)) 20 0 17 1 := ⟨_, rfl⟩
  rw [← e16]
  have m16 : MK 16 g16 := by
    rw [e16]
    exact MK_S 15 m15
  have o16 : ∀ h, h < 20 → g16 h = g h := fun h hh => by rw [e16, MK_o 15 17 g15 h hh, o15 h hh]
  clear e16 m15 o15
  rw [ln_t (by rfl) (by decide), al_t (by rw [adr_37]; omega) (by omega) (by omega), let_e, let_e]
  obtain ⟨g17, e17⟩ : ∃ G, G = mm_st (mm_row g16 37 0 (fun _ => 0)) 20 0 18 1 := ⟨_, rfl⟩
  rw [← e17]
  have m17 : MK 17 g17 := by
    rw [e17]
    exact MK_S 16 m16
  have o17 : ∀ h, h < 20 → g17 h = g h := fun h hh => by rw [e17, MK_o 16 18 g16 h hh, o16 h hh]
  clear e17 m16 o16
  unfold v_Mo_init_b139
  rw [ln_t (by rfl) (by decide), al_t (by rw [adr_38]; omega) (by omega) (by omega), let_e, let_e]
  obtain ⟨g18, e18⟩ : ∃ G, G = mm_st (mm_row g17 38 0 (fun _ => 0)) 20 0 19 1 := ⟨_, rfl⟩
  rw [← e18]
  have m18 : MK 18 g18 := by
    rw [e18]
    exact MK_S 17 m17
  have o18 : ∀ h, h < 20 → g18 h = g h := fun h hh => by rw [e18, MK_o 17 19 g17 h hh, o17 h hh]
  clear e18 m17 o17
  rw [ln_t (by rfl) (by decide), al_t (by rw [adr_39]; omega) (by omega) (by omega), let_e, let_e]
  obtain ⟨g19, e19⟩ : ∃ G, G = mm_st (mm_row g18 39 0 (fun _ => 0)) 20 0 21 1 := ⟨_, rfl⟩
  rw [← e19]
  have m19 : MK 19 g19 := by
    rw [e19]
    exact MK_S 18 m18
  have o19 : ∀ h, h < 20 → g19 h = g h := fun h hh => by rw [e19, MK_o 18 21 g18 h hh, o18 h hh]
  clear e19 m18 o18
  unfold v_Mo_init_b156
  rw [ln_t (by rfl) (by decide), al_t (by rw [adr_40]; omega) (by omega) (by omega), let_e, let_e]
  obtain ⟨g20, e20⟩ : ∃ G, G = mm_st (mm_row g19 40 0 (fun _ => 0)) 20 0 22 1 := ⟨_, rfl⟩
  rw [← e20]
  have m20 : MK 20 g20 := by
    rw [e20]
    exact MK_S 19 m19
  have o20 : ∀ h, h < 20 → g20 h = g h := fun h hh => by rw [e20, MK_o 19 22 g19 h hh, o19 h hh]
  clear e20 m19 o19
  rw [ln_t (by rfl) (by decide), al_t (by rw [adr_41]; omega) (by omega) (by omega), let_e, let_e]
  obtain ⟨g21, e21⟩ : ∃ G, G = mm_st (mm_row g20 41 0 (fun _ => 0)) 20 0 23 1 := ⟨_, rfl⟩
  rw [← e21]
  have m21 : MK 21 g21 := by
    rw [e21]
    exact MK_S 20 m20
  have o21 : ∀ h, h < 20 → g21 h = g h := fun h hh => by rw [e21, MK_o 20 23 g20 h hh, o20 h hh]
  clear e21 m20 o20
  unfold v_Mo_init_b172
  rw [ln_t (by rfl) (by decide), al_t (by rw [adr_42]; omega) (by omega) (by omega), let_e, let_e]
  obtain ⟨g22, e22⟩ : ∃ G, G = mm_st (mm_row g21 42 0 (fun _ => 0)) 20 0 24 1 := ⟨_, rfl⟩
  rw [← e22]
  have m22 : MK 22 g22 := by
    rw [e22]
    exact MK_S 21 m21
  have o22 : ∀ h, h < 20 → g22 h = g h := fun h hh => by rw [e22, MK_o 21 24 g21 h hh, o21 h hh]
  clear e22 m21 o21
  rw [ln_t (by rfl) (by decide), al_t (by rw [adr_43]; omega) (by omega) (by omega), let_e, let_e]
  obtain ⟨g23, e23⟩ : ∃ G, G = mm_st (mm_row g22 43 0 (fun _ => 0)) 20 0 25 1 := ⟨_, rfl⟩
  rw [← e23]
  have m23 : MK 23 g23 := by
    rw [e23]
    exact MK_S 22 m22
  have o23 : ∀ h, h < 20 → g23 h = g h := fun h hh => by rw [e23, MK_o 22 25 g22 h hh, o22 h hh]
  clear e23 m22 o22
  unfold v_Mo_init_b188
  rw [ln_t (by rfl) (by decide), al_t (by rw [adr_44]; omega) (by omega) (by omega), let_e, let_e]
  obtain ⟨g24, e24⟩ : ∃ G, G = mm_st (mm_row g23 44 0 (fun _ => 0)) 20 0 26 1 := ⟨_, rfl⟩
  rw [← e24]
  have m24 : MK 24 g24 := by
    rw [e24]
    exact MK_S 23 m23
  have o24 : ∀ h, h < 20 → g24 h = g h := fun h hh => by rw [e24, MK_o 23 26 g23 h hh, o23 h hh]
  clear e24 m23 o23
  have fin : ∀ (t1 : Int32) (z' y' : Nat), z' = b + 43 + 12 * n → t1 = nI n → y' ≤ y + 5000 → ∃ (g' : mm_M) (y'' : Nat), v_Mo_init_b214 n (adr b n) zm ym g24 z' y' x2 t1 = some (g', b + 43 + 12 * n, y'') ∧ y'' ≤ y + 5000 ∧ E1 n sh g' ∧ ∀ h, h < 20 → g' h = g h := by
    rintro t1 z' y' rfl rfl hy'
    unfold v_Mo_init_b214
    rw [let_e]
    obtain ⟨a, c0, c1, c2⟩ := m24
    obtain ⟨g', f1, f2, f3, f4⟩ := i_Mo21 (b := b) (n := n) (zm := zm) (ym := ym) q2 4096 12 0 (mm_st g24 20 0 1 (nI n)) (b + 43 + 12 * n) y' (by omega) (by omega) (by omega) (by rw [st_j (by decide)]; exact (a 21 (by decide) (by decide)).2) (by rw [st_j (by decide)]; exact (a 30 (by decide) (by decide)).2)
    have f20 := f4 20 (by decide) (by decide)
    refine ⟨g', y', f1, hy', ⟨?_, ?_, ?_, fun h h1 h2 => ?_, fun j hj => ?_, f3, fun h h1 h2 h3 h4 => ?_⟩, fun h hh => ?_⟩
    · rw [f20, st_j (by decide), c0]
    · rw [f20, st_eq]
    · rw [f20, st_j (by decide), c2]
    · rw [f20, st_j (js_ne h1).2.1, (a h h1 (by omega)).2]
    · rw [f2 j, if_pos ⟨Nat.zero_le _, hj⟩]
    · rw [f4 h h3 h4, st_k (by omega), (a h h1 (by omega)).1]
    · rw [f4 h (by omega) (by omega), st_k (by omega), o24 h hh]
  unfold v_Mo_init_b208
  rcases q1 with ⟨a1, rfl⟩ | ⟨a1, a2, a4, rfl⟩ | ⟨a1, a2, a4, a3⟩
  · rw [if_pos a1]
    exact fin 6 _ _ (by omega) rfl (by omega)
  · rw [if_neg a1, if_neg a4]
    exact fin 6 _ _ (by omega) rfl (by omega)
  · rw [if_neg a1, if_pos a4]
    exact fin x1 _ _ (by omega) a3 (by omega)
/-! the start -/
def A0 : mm_A := fun f _ j => if f = 2 ∨ f = 3 then 99 else if f = 5 ∧ j = 0 then 99 else 0
theorem LS_0 {n sh : Nat} {g : mm_M} (hn : n ≤ 12) (h0 : E0 n sh g) (h1 : E1 n sh g) : mm_LS n sh 0 g := by
  obtain ⟨⟨b0, b1, b2, b3, b4, b5, b6⟩, hC, a4, a5, a10, a11, a12, a121, a122, a123, a13, a14⟩ := h0
  obtain ⟨c0, c1, c20, cr, c21, c30, cz⟩ := h1
  refine ⟨g, g, A0, (jn_self g).symm, ⟨?_, ?_, ?_, ?_, ?_, ?_⟩, ⟨?_, ?_, ?_, ?_, ?_, ?_⟩, ⟨?_, ?_, ?_, ?_, ?_⟩⟩
  · intro c l hc hl
    obtain ⟨q1, q2, q3, q4, q5⟩ := hC c hc
    obtain ⟨w1, w2⟩ := q5 l hl
    rw [w1, w2]
    exact ⟨rfl, rfl, rfl, rfl, rfl, fun k hk => by
      have : k = 0 ∨ k = 1 ∨ k = 2 ∨ k = 3 := by omega
      rcases this with rfl | rfl | rfl | rfl <;> rfl⟩
  · intro c hc
    obtain ⟨q1, q2, q3, q4, q5⟩ := hC c hc
    rw [q1, q2]
    exact ⟨rfl, rfl, rfl, fun k hk => rfl⟩
  · intro d hd
    obtain ⟨w1, w2, w3⟩ := a14 d hd
    rw [w1]
    exact ⟨rfl, rfl, rfl, fun k _ hk => absurd hk (Nat.not_lt_zero k)⟩
  · exact ⟨by rw [a10]; rfl, fun i hi => absurd hi (Nat.not_lt_zero i)⟩
  · intro l hl
    rw [b4]
    rfl
  · exact ⟨b0, a12, b6⟩
  · intro c l hc hl
    rw [cz 28 (by decide) (by decide) (by decide) (by decide), cz 26 (by decide) (by decide) (by decide) (by decide), cz 27 (by decide) (by decide) (by decide) (by decide), cz 29 (by decide) (by decide) (by decide) (by decide)]
    exact ⟨rfl, fun h => absurd rfl h, rfl, rfl, fun k hk => by
      have : k = 0 ∨ k = 1 ∨ k = 2 ∨ k = 3 := by omega
      rcases this with rfl | rfl | rfl | rfl <;> rfl⟩
  · intro c hc
    rw [c30 c hc, cz 31 (by decide) (by decide) (by decide) (by decide), cz 32 (by decide) (by decide) (by decide) (by decide), cz 23 (by decide) (by decide) (by decide) (by decide), cz 33 (by decide) (by decide) (by decide) (by decide)]
    exact ⟨rfl, rfl, rfl, rfl, fun k hk => rfl⟩
  · unfold RmL
    rw [cz 34 (by decide) (by decide) (by decide) (by decide), cz 35 (by decide) (by decide) (by decide) (by decide), cz 36 (by decide) (by decide) (by decide) (by decide)]
    exact ⟨fun d hd => ⟨rfl, rfl, rfl, fun k _ hk => absurd hk (Nat.not_lt_zero k)⟩, fun d _ _ => rfl⟩
  · exact ⟨c20, fun i hi => absurd hi (Nat.not_lt_zero i)⟩
  · intro l hl
    rw [cz 22 (by decide) (by decide) (by decide) (by decide)]
    rfl
  · exact ⟨c1, c21⟩
  · exact fun c l _ _ => ⟨Nat.zero_le _, Nat.zero_le _, fun q => by rcases q with q | q <;> cases q⟩
  · exact fun c _ => ⟨Nat.zero_le _, Nat.zero_le _, fun _ => ⟨rfl, fun l _ => ⟨rfl, rfl⟩⟩, fun q => absurd rfl q⟩
  · exact fun d _ => ⟨Nat.zero_le _, Nat.zero_le _, Nat.zero_le _, Nat.zero_le _, fun k _ hk => absurd hk (Nat.not_lt_zero k)⟩
  · exact ⟨Nat.zero_le _, fun i hi => absurd hi (Nat.not_lt_zero i)⟩
  · exact fun l _ => Nat.zero_le _
/-! where the cells lie -/
theorem lv_in {n b h i : Nat} (hn : n ≤ 12) (hl : mm_lv n h i) : (h ≤ 4 ∧ i = 0 ∧ adr b n h i = b + h) ∨ ((h = 5 ∧ adr b n h i = cb b n i ∨ h = 7 ∧ adr b n h i = cb b n i + 1 ∨ h = 6 ∧ adr b n h i = cb b n i + 2) ∧ i < 3) ∨ (∃ c l, c < 3 ∧ l < n ∧ i = 12 * c + l ∧ (h = 8 ∧ adr b n h i = cb b n c + 3 + 2 * l ∨ h = 9 ∧ adr b n h i = cb b n c + 4 + 2 * l)) ∨ (10 ≤ h ∧ h ≤ 13 ∧ i = 0 ∧ adr b n h i = b + 4 + 6 * n + h) ∨ (14 ≤ h ∧ h ≤ 16 ∧ i < 2 * n ∧ adr b n h i = b + 4 + 6 * n + h + 3 * i) ∨ (20 ≤ h ∧ h ≤ 44 ∧ i = 0 ∧ adr b n h i + 2 = b + h + 12 * n) ∨ (h = 50 ∧ i = 0 ∧ adr b n h i = b + 43 + 12 * n) := by
  unfold mm_lv at hl
  split at hl
  · exact Or.inl ⟨by decide, hl, rfl⟩
  · exact Or.inl ⟨by decide, hl, rfl⟩
  · exact Or.inl ⟨by decide, hl, rfl⟩
  · exact Or.inl ⟨by decide, hl, rfl⟩
  · exact Or.inl ⟨by decide, hl, rfl⟩
  · exact Or.inr (Or.inl ⟨Or.inl ⟨rfl, rfl⟩, hl⟩)
  · exact Or.inr (Or.inl ⟨Or.inr (Or.inr ⟨rfl, rfl⟩), hl⟩)
  · exact Or.inr (Or.inl ⟨Or.inr (Or.inl ⟨rfl, rfl⟩), hl⟩)
  · obtain ⟨c, l, h1, h2, rfl⟩ := hl
    exact Or.inr (Or.inr (Or.inl ⟨c, l, h1, h2, rfl, Or.inl ⟨rfl, adr_8 (by omega)⟩⟩))
  · obtain ⟨c, l, h1, h2, rfl⟩ := hl
    exact Or.inr (Or.inr (Or.inl ⟨c, l, h1, h2, rfl, Or.inr ⟨rfl, adr_9 (by omega)⟩⟩))
  · exact Or.inr (Or.inr (Or.inr (Or.inl ⟨by decide, by decide, hl, by rw [adr_10]; omega⟩)))
  · exact Or.inr (Or.inr (Or.inr (Or.inl ⟨by decide, by decide, hl, by rw [adr_11]; omega⟩)))
  · exact Or.inr (Or.inr (Or.inr (Or.inl ⟨by decide, by decide, hl, by rw [adr_12]; omega⟩)))
  · exact Or.inr (Or.inr (Or.inr (Or.inl ⟨by decide, by decide, hl, by rw [adr_13]; omega⟩)))
  · exact Or.inr (Or.inr (Or.inr (Or.inr (Or.inl ⟨by decide, by decide, hl, by rw [adr_14]; omega⟩))))
  · exact Or.inr (Or.inr (Or.inr (Or.inr (Or.inl ⟨by decide, by decide, hl, by rw [adr_15]; omega⟩))))
  · exact Or.inr (Or.inr (Or.inr (Or.inr (Or.inl ⟨by decide, by decide, hl, by rw [adr_16]; omega⟩))))
  · exact Or.inr (Or.inr (Or.inr (Or.inr (Or.inr (Or.inl ⟨by decide, by decide, hl, by rw [adr_20]; omega⟩)))))
  · exact Or.inr (Or.inr (Or.inr (Or.inr (Or.inr (Or.inl ⟨by decide, by decide, hl, by rw [adr_21]; omega⟩)))))
  · exact Or.inr (Or.inr (Or.inr (Or.inr (Or.inr (Or.inl ⟨by decide, by decide, hl, by rw [adr_22]; omega⟩)))))
  · exact Or.inr (Or.inr (Or.inr (Or.inr (Or.inr (Or.inl ⟨by decide, by decide, hl, by rw [adr_23]; omega⟩)))))
  · exact Or.inr (Or.inr (Or.inr (Or.inr (Or.inr (Or.inl ⟨by decide, by decide, hl, by rw [adr_24]; omega⟩)))))
  · exact Or.inr (Or.inr (Or.inr (Or.inr (Or.inr (Or.inl ⟨by decide, by decide, hl, by rw [adr_25]; omega⟩)))))
  · exact Or.inr (Or.inr (Or.inr (Or.inr (Or.inr (Or.inl ⟨by decide, by decide, hl, by rw [adr_26]; omega⟩)))))
  · exact Or.inr (Or.inr (Or.inr (Or.inr (Or.inr (Or.inl ⟨by decide, by decide, hl, by rw [adr_27]; omega⟩)))))
  · exact Or.inr (Or.inr (Or.inr (Or.inr (Or.inr (Or.inl ⟨by decide, by decide, hl, by rw [adr_28]; omega⟩)))))
  · exact Or.inr (Or.inr (Or.inr (Or.inr (Or.inr (Or.inl ⟨by decide, by decide, hl, by rw [adr_29]; omega⟩)))))
  · exact Or.inr (Or.inr (Or.inr (Or.inr (Or.inr (Or.inl ⟨by decide, by decide, hl, by rw [adr_30]; omega⟩)))))
  · exact Or.inr (Or.inr (Or.inr (Or.inr (Or.inr (Or.inl ⟨by decide, by decide, hl, by rw [adr_31]; omega⟩)))))
  · exact Or.inr (Or.inr (Or.inr (Or.inr (Or.inr (Or.inl ⟨by decide, by decide, hl, by rw [adr_32]; omega⟩)))))
  · exact Or.inr (Or.inr (Or.inr (Or.inr (Or.inr (Or.inl ⟨by decide, by decide, hl, by rw [adr_33]; omega⟩)))))
  · exact Or.inr (Or.inr (Or.inr (Or.inr (Or.inr (Or.inl ⟨by decide, by decide, hl, by rw [adr_34]; omega⟩)))))
  · exact Or.inr (Or.inr (Or.inr (Or.inr (Or.inr (Or.inl ⟨by decide, by decide, hl, by rw [adr_35]; omega⟩)))))
  · exact Or.inr (Or.inr (Or.inr (Or.inr (Or.inr (Or.inl ⟨by decide, by decide, hl, by rw [adr_36]; omega⟩)))))
  · exact Or.inr (Or.inr (Or.inr (Or.inr (Or.inr (Or.inl ⟨by decide, by decide, hl, by rw [adr_37]; omega⟩)))))
  · exact Or.inr (Or.inr (Or.inr (Or.inr (Or.inr (Or.inl ⟨by decide, by decide, hl, by rw [adr_38]; omega⟩)))))
  · exact Or.inr (Or.inr (Or.inr (Or.inr (Or.inr (Or.inl ⟨by decide, by decide, hl, by rw [adr_39]; omega⟩)))))
  · exact Or.inr (Or.inr (Or.inr (Or.inr (Or.inr (Or.inl ⟨by decide, by decide, hl, by rw [adr_40]; omega⟩)))))
  · exact Or.inr (Or.inr (Or.inr (Or.inr (Or.inr (Or.inl ⟨by decide, by decide, hl, by rw [adr_41]; omega⟩)))))
  · exact Or.inr (Or.inr (Or.inr (Or.inr (Or.inr (Or.inl ⟨by decide, by decide, hl, by rw [adr_42]; omega⟩)))))
  · exact Or.inr (Or.inr (Or.inr (Or.inr (Or.inr (Or.inl ⟨by decide, by decide, hl, by rw [adr_43]; omega⟩)))))
  · exact Or.inr (Or.inr (Or.inr (Or.inr (Or.inr (Or.inl ⟨by decide, by decide, hl, by rw [adr_44]; omega⟩)))))
  · exact Or.inr (Or.inr (Or.inr (Or.inr (Or.inr (Or.inr ⟨rfl, hl, rfl⟩)))))
  · exact absurd hl id
theorem cb_in {b n c : Nat} (hc : c < 3) : (c = 0 ∧ cb b n c = b + 5) ∨ (c = 1 ∧ cb b n c = b + 8 + 2 * n) ∨ (c = 2 ∧ cb b n c = b + 11 + 4 * n) := by
  have h : c = 0 ∨ c = 1 ∨ c = 2 := by omega
  rcases h with rfl | rfl | rfl
  · exact Or.inl ⟨rfl, cb_0 b n⟩
  · exact Or.inr (Or.inl ⟨rfl, cb_1 b n⟩)
  · exact Or.inr (Or.inr ⟨rfl, cb_2 b n⟩)
/-- a cell's place, with its kind and object, as numbers: the cell's own number in the order of the making -/
theorem lv_rg {n b h i : Nat} (hn : n ≤ 12) (hl : mm_lv n h i) : b ≤ adr b n h i ∧ adr b n h i < b + 44 + 12 * n := by
  rcases lv_in (b := b) hn hl with q | ⟨q, q2⟩ | ⟨c, l, q1, q2, q3, q4⟩ | q | q | q | q
  · omega
  · have := cb_in (b := b) (n := n) q2
    omega
  · have := cb_in (b := b) (n := n) q1
    omega
  · omega
  · omega
  · omega
  · omega
set_option maxHeartbeats 4000000 in
theorem lv_inj {n b : Nat} (hn : n ≤ 12) (h i h' i' : Nat) (hl : mm_lv n h i) (hl' : mm_lv n h' i') (e : adr b n h i = adr b n h' i') : h = h' ∧ i = i' := by
  rcases lv_in (b := b) hn hl with q | ⟨q, q2⟩ | ⟨c, l, q1, q2, q3, q4⟩ | q | q | q | q
  · rcases lv_in (b := b) hn hl' with r | ⟨r, r2⟩ | ⟨c2, l2, r1, r2, r3, r4⟩ | r | r | r | r
    · omega
    · have z2 := cb_in (b := b) (n := n) r2
      omega
    · have z2 := cb_in (b := b) (n := n) r1
      omega
    · omega
    · omega
    · omega
    · omega
  · have z := cb_in (b := b) (n := n) q2
    rcases lv_in (b := b) hn hl' with r | ⟨r, r2⟩ | ⟨c2, l2, r1, r2, r3, r4⟩ | r | r | r | r
    · omega
    · have z2 := cb_in (b := b) (n := n) r2
      omega
    · have z2 := cb_in (b := b) (n := n) r1
      omega
    · omega
    · omega
    · omega
    · omega
  · have z := cb_in (b := b) (n := n) q1
    rcases lv_in (b := b) hn hl' with r | ⟨r, r2⟩ | ⟨c2, l2, r1, r2, r3, r4⟩ | r | r | r | r
    · omega
    · have z2 := cb_in (b := b) (n := n) r2
      omega
    · have z2 := cb_in (b := b) (n := n) r1
      omega
    · omega
    · omega
    · omega
    · omega
  · rcases lv_in (b := b) hn hl' with r | ⟨r, r2⟩ | ⟨c2, l2, r1, r2, r3, r4⟩ | r | r | r | r
    · omega
    · have z2 := cb_in (b := b) (n := n) r2
      omega
    · have z2 := cb_in (b := b) (n := n) r1
      omega
    · omega
    · omega
    · omega
    · omega
  · rcases lv_in (b := b) hn hl' with r | ⟨r, r2⟩ | ⟨c2, l2, r1, r2, r3, r4⟩ | r | r | r | r
    · omega
    · have z2 := cb_in (b := b) (n := n) r2
      omega
    · have z2 := cb_in (b := b) (n := n) r1
      omega
    · omega
    · omega
    · omega
    · omega
  · rcases lv_in (b := b) hn hl' with r | ⟨r, r2⟩ | ⟨c2, l2, r1, r2, r3, r4⟩ | r | r | r | r
    · omega
    · have z2 := cb_in (b := b) (n := n) r2
      omega
    · have z2 := cb_in (b := b) (n := n) r1
      omega
    · omega
    · omega
    · omega
    · omega
  · rcases lv_in (b := b) hn hl' with r | ⟨r, r2⟩ | ⟨c2, l2, r1, r2, r3, r4⟩ | r | r | r | r
    · omega
    · have z2 := cb_in (b := b) (n := n) r2
      omega
    · have z2 := cb_in (b := b) (n := n) r1
      omega
    · omega
    · omega
    · omega
    · omega

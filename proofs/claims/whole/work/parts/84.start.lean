/-! the places of the cells, in the order of their making from b on -/
def cb (b n c : Nat) : Nat := b + 5 + c * (3 + 2 * n)
def adr (b n : Nat) (h i : Nat) : Nat := match h with
  | 0 => b
  | 1 => b + 1
  | 2 => b + 2
  | 3 => b + 3
  | 4 => b + 4
  | 5 => cb b n i
  | 6 => cb b n i + 2
  | 7 => cb b n i + 1
  | 8 => cb b n (i / 12) + 3 + 2 * (i % 12)
  | 9 => cb b n (i / 12) + 4 + 2 * (i % 12)
  | 10 => b + 14 + 6 * n
  | 11 => b + 15 + 6 * n
  | 12 => b + 16 + 6 * n
  | 13 => b + 17 + 6 * n
  | 14 => b + 18 + 6 * n + 3 * i
  | 15 => b + 19 + 6 * n + 3 * i
  | 16 => b + 20 + 6 * n + 3 * i
  | 20 => b + 18 + 12 * n
  | 21 => b + 19 + 12 * n
  | 22 => b + 20 + 12 * n
  | 23 => b + 21 + 12 * n
  | 24 => b + 22 + 12 * n
  | 25 => b + 23 + 12 * n
  | 26 => b + 24 + 12 * n
  | 27 => b + 25 + 12 * n
  | 28 => b + 26 + 12 * n
  | 29 => b + 27 + 12 * n
  | 30 => b + 28 + 12 * n
  | 31 => b + 29 + 12 * n
  | 32 => b + 30 + 12 * n
  | 33 => b + 31 + 12 * n
  | 34 => b + 32 + 12 * n
  | 35 => b + 33 + 12 * n
  | 36 => b + 34 + 12 * n
  | 37 => b + 35 + 12 * n
  | 38 => b + 36 + 12 * n
  | 39 => b + 37 + 12 * n
  | 40 => b + 38 + 12 * n
  | 41 => b + 39 + 12 * n
  | 42 => b + 40 + 12 * n
  | 43 => b + 41 + 12 * n
  | 44 => b + 42 + 12 * n
  | 50 => b + 43 + 12 * n
  | _ => 0
theorem adr_0 (b n i : Nat) : adr b n 0 i = b := rfl
theorem adr_1 (b n i : Nat) : adr b n 1 i = b + 1 := rfl
theorem adr_2 (b n i : Nat) : adr b n 2 i = b + 2 := rfl
theorem adr_3 (b n i : Nat) : adr b n 3 i = b + 3 := rfl
theorem adr_4 (b n i : Nat) : adr b n 4 i = b + 4 := rfl
theorem adr_5 (b n i : Nat) : adr b n 5 i = cb b n i := rfl
theorem adr_6 (b n i : Nat) : adr b n 6 i = cb b n i + 2 := rfl
theorem adr_7 (b n i : Nat) : adr b n 7 i = cb b n i + 1 := rfl
theorem adr_10 (b n i : Nat) : adr b n 10 i = b + 14 + 6 * n := rfl
theorem adr_11 (b n i : Nat) : adr b n 11 i = b + 15 + 6 * n := rfl
theorem adr_12 (b n i : Nat) : adr b n 12 i = b + 16 + 6 * n := rfl
theorem adr_13 (b n i : Nat) : adr b n 13 i = b + 17 + 6 * n := rfl
theorem adr_14 (b n i : Nat) : adr b n 14 i = b + 18 + 6 * n + 3 * i := rfl
theorem adr_15 (b n i : Nat) : adr b n 15 i = b + 19 + 6 * n + 3 * i := rfl
theorem adr_16 (b n i : Nat) : adr b n 16 i = b + 20 + 6 * n + 3 * i := rfl
theorem adr_20 (b n i : Nat) : adr b n 20 i = b + 18 + 12 * n := rfl
theorem adr_21 (b n i : Nat) : adr b n 21 i = b + 19 + 12 * n := rfl
theorem adr_22 (b n i : Nat) : adr b n 22 i = b + 20 + 12 * n := rfl
theorem adr_23 (b n i : Nat) : adr b n 23 i = b + 21 + 12 * n := rfl
theorem adr_24 (b n i : Nat) : adr b n 24 i = b + 22 + 12 * n := rfl
theorem adr_25 (b n i : Nat) : adr b n 25 i = b + 23 + 12 * n := rfl
theorem adr_26 (b n i : Nat) : adr b n 26 i = b + 24 + 12 * n := rfl
theorem adr_27 (b n i : Nat) : adr b n 27 i = b + 25 + 12 * n := rfl
theorem adr_28 (b n i : Nat) : adr b n 28 i = b + 26 + 12 * n := rfl
theorem adr_29 (b n i : Nat) : adr b n 29 i = b + 27 + 12 * n := rfl
theorem adr_30 (b n i : Nat) : adr b n 30 i = b + 28 + 12 * n := rfl
theorem adr_31 (b n i : Nat) : adr b n 31 i = b + 29 + 12 * n := rfl
theorem adr_32 (b n i : Nat) : adr b n 32 i = b + 30 + 12 * n := rfl
theorem adr_33 (b n i : Nat) : adr b n 33 i = b + 31 + 12 * n := rfl
theorem adr_34 (b n i : Nat) : adr b n 34 i = b + 32 + 12 * n := rfl
theorem adr_35 (b n i : Nat) : adr b n 35 i = b + 33 + 12 * n := rfl
theorem adr_36 (b n i : Nat) : adr b n 36 i = b + 34 + 12 * n := rfl
theorem adr_37 (b n i : Nat) : adr b n 37 i = b + 35 + 12 * n := rfl
theorem adr_38 (b n i : Nat) : adr b n 38 i = b + 36 + 12 * n := rfl
theorem adr_39 (b n i : Nat) : adr b n 39 i = b + 37 + 12 * n := rfl
theorem adr_40 (b n i : Nat) : adr b n 40 i = b + 38 + 12 * n := rfl
theorem adr_41 (b n i : Nat) : adr b n 41 i = b + 39 + 12 * n := rfl
theorem adr_42 (b n i : Nat) : adr b n 42 i = b + 40 + 12 * n := rfl
theorem adr_43 (b n i : Nat) : adr b n 43 i = b + 41 + 12 * n := rfl
theorem adr_44 (b n i : Nat) : adr b n 44 i = b + 42 + 12 * n := rfl
theorem adr_50 (b n i : Nat) : adr b n 50 i = b + 43 + 12 * n := rfl
theorem adr_8 {b n c l : Nat} (hl : l < 12) : adr b n 8 (12 * c + l) = cb b n c + 3 + 2 * l := by
  show cb b n ((12 * c + l) / 12) + 3 + 2 * ((12 * c + l) % 12) = _
  rw [show (12 * c + l) / 12 = c by omega, show (12 * c + l) % 12 = l by omega]
theorem adr_9 {b n c l : Nat} (hl : l < 12) : adr b n 9 (12 * c + l) = cb b n c + 4 + 2 * l := by
  show cb b n ((12 * c + l) / 12) + 4 + 2 * ((12 * c + l) % 12) = _
  rw [show (12 * c + l) / 12 = c by omega, show (12 * c + l) % 12 = l by omega]
theorem cb_0 (b n : Nat) : cb b n 0 = b + 5 := by simp [cb]
theorem cb_S (b n c : Nat) : cb b n (c + 1) = cb b n c + 3 + 2 * n := by
  unfold cb
  rw [Nat.add_mul, Nat.one_mul]
  omega
theorem cb_1 (b n : Nat) : cb b n 1 = b + 8 + 2 * n := by rw [cb_S b n 0, cb_0]
theorem cb_2 (b n : Nat) : cb b n 2 = b + 11 + 4 * n := by rw [cb_S b n 1, cb_1]; omega
theorem cb_3 (b n : Nat) : cb b n 3 = b + 14 + 6 * n := by rw [cb_S b n 2, cb_2]; omega
theorem al_t {α : Type} {z a zm y N ym : Nat} {k : Option α} (h1 : z = a) (h2 : z + 1 ≤ zm) (h3 : y + N ≤ ym) : mm_al z a zm y N ym k = k := if_pos ⟨h1, h2, h3⟩
theorem ln_t {α : Type} {x : Int32} {N : Nat} {k : Option α} (h : x = nI N) (hN : N < 100000) : mm_ln x N k = k := if_pos ⟨h, hN⟩
theorem nn_t {α : Type} {x : Int32} {k : Option α} (h : x ≠ 0) : mm_nn x k = k := if_neg h
theorem nn_1 {α : Type} {x : Int32} {k : Option α} (h : x = 1) : mm_nn x k = k := if_neg (by rw [h]; decide)
theorem lt_t {α : Type} {a z : Nat} {k : Option α} (h : a < z) : mm_lt a z k = k := if_pos h
theorem gd_t {α : Type} {z zm y ym : Nat} {k : Option α} (h1 : z ≤ zm) (h2 : y ≤ ym) : mm_gd z zm y ym k = k := if_pos ⟨h1, h2⟩
theorem bv_s {β : Type} (g : mm_M) (z y : Nat) (k : mm_M → Nat → Nat → Option β) : mm_bv (some (g, z, y)) k = k g z y := rfl
theorem o1_s {β : Type} (v : Int32) (k : Int32 → Option β) : mm_o1 (some v) k = k v := rfl
theorem ix_0 {α : Type} {N : Nat} {k : Option α} (h : 0 < N) (hN : N < 2147483648) : mm_ix 0 N k = k := ix_n (a := 0) h hN
theorem cl_0 : (0 : Int32).toNatClampNeg = 0 := rfl
theorem st_nr {g : mm_M} {h i j : Nat} {v : Int32} {a b : Nat} (hn : ¬ (a = h ∧ b = i)) : mm_st g h i j v a b = g a b := mm_row_ne hn
theorem nI_s1 (l : Nat) : nI l + 1 = nI (l + 1) := nI_add l 1
def rZ : Nat → Int32 := fun _ => 0
def r5 : Nat → Int32 := fun j => if j = 0 ∨ j = 1 then 1 else if j = 3 then -1 else 0
def r8 : Nat → Int32 := fun j => if j = 0 then 1 else if j = 2 ∨ j = 3 then -1 else 0
def r10 : Nat → Int32 := fun j => if j = 0 then 1 else 0
def r14 : Nat → Int32 := fun j => if j = 0 ∨ j = 1 then 1 else 0
theorem i_De {b n zm ym : Nat} {g : mm_M} {z y c l : Nat} (hl : l < 12) (hz : z = cb b n c + 4 + 2 * l) (hzm : z + 1 ≤ zm) (hym : y + 4 ≤ ym) (h0 : g 8 (12 * c + l) = rZ) : ∃ g', v_De_init n (adr b n) zm ym g z y (12 * c + l) = some (g', z + 1, y + 4) ∧ g' 8 (12 * c + l) = r8 ∧ g' 9 (12 * c + l) = rZ ∧ ∀ h i, ¬ (h = 8 ∧ i = 12 * c + l) → ¬ (h = 9 ∧ i = 12 * c + l) → g' h i = g h i := by
  unfold v_De_init
  rw [ln_t (by rfl) (by decide), al_t (by rw [adr_9 hl]; exact hz) hzm hym]
  refine ⟨_, rfl, ?_, ?_, fun h i h1 h2 => ?_⟩
  · funext j
    rcases j with _ | _ | _ | _ | _ | j <;> simp [st_ap, row_k, h0, r8, rZ]
  · funext j
    simp [st_ap, row_self, rZ]
  · rw [st_nr h1, st_nr h1, st_nr h1, st_nr h1, mm_row_ne h2]
theorem i_Col {b n zm ym c : Nat} (hn : n ≤ 12) (hz0 : cb b n c + 3 + 2 * n ≤ zm) : ∀ (K r l : Nat) (g : mm_M) (z y : Nat), l + r = n → r < K → z = cb b n c + 3 + 2 * l → y + 10 * r ≤ ym → g 5 c 0 = 1 → ∃ g', v_Co_init_l28 n (adr b n) zm ym K g z y c (nI n) (nI l) = some (g', cb b n c + 3 + 2 * n, y + 10 * r) ∧ (∀ j, g' 6 c j = if l ≤ j ∧ j < n then 1 else g 6 c j) ∧ (∀ l', l ≤ l' → l' < n → g' 8 (12 * c + l') = r8 ∧ g' 9 (12 * c + l') = rZ) ∧ (∀ i, (∀ l', l ≤ l' → l' < n → i ≠ 12 * c + l') → g' 8 i = g 8 i ∧ g' 9 i = g 9 i) ∧ (∀ i, i ≠ c → g' 6 i = g 6 i) ∧ ∀ h, h ≠ 6 → h ≠ 8 → h ≠ 9 → g' h = g h := by
  intro K
  induction K with
  | zero =>
    intro r l g z y _ h2
    omega
  | succ K ih =>
    intro r l g z y hs hr hz hy h5
    rw [v_Co_init_l28]
    cases r with
    | zero =>
      have hln : l = n := by omega
      subst hln
      rw [if_pos ((nI_L (by omega) (by omega)).mpr (Nat.le_refl _)), hz]
      refine ⟨g, rfl, fun j => ?_, fun l' h1 h2 => absurd h2 (by omega), fun i _ => ⟨rfl, rfl⟩, fun i _ => rfl, fun h _ _ _ => rfl⟩
      rw [if_neg (by omega)]
    | succ r =>
      have e : ¬ nI n ≤ nI l := fun q => by
        have := (nI_L (by omega) (by omega)).mp q
        omega
      rw [if_neg e, nn_1 h5, lt_t (by rw [adr_6]; omega), ix_n (by omega) (by omega), nI_cl (by omega), al_t (by rw [adr_8 (by omega)]; exact hz) (by omega) (by omega), let_e, gd_t (by omega) (by omega)]
      obtain ⟨g1, e1, e2, e3, e4⟩ := i_De (b := b) (n := n) (zm := zm) (ym := ym) (g := mm_row g 8 (12 * c + l) (fun _ => 0)) (z := z + 1) (y := y + 6) (c := c) (l := l) (by omega) (by omega) (by omega) (by omega) row_self
      rw [e1, bv_s, ix_n (by omega) (by omega), let_e, nI_s1]
      have h5' : mm_st g1 6 c l 1 5 c 0 = 1 := by
        rw [st_k (by decide), e4 5 c (fun q => absurd q.1 (by decide)) (fun q => absurd q.1 (by decide)), row_k (by decide)]
        exact h5
      obtain ⟨g', f1, f2, f3, f4, f5, f6⟩ := ih r (l + 1) (mm_st g1 6 c l 1) (z + 1 + 1) (y + 6 + 4) (by omega) (by omega) (by omega) (by omega) h5'
      rw [f1]
      refine ⟨g', by rw [show y + 6 + 4 + 10 * r = y + 10 * (r + 1) by omega], fun j => ?_, fun l' h1 h2 => ?_, fun i hi => ?_, fun i hi => ?_, fun h a1 a2 a3 => ?_⟩
      · rw [f2 j, st_ap]
        by_cases h1 : l + 1 ≤ j ∧ j < n
        · rw [if_pos h1, if_pos (by omega)]
        · by_cases h2 : j = l
          · rw [if_neg h1, if_pos ⟨rfl, rfl, h2⟩, if_pos (by omega)]
          · rw [if_neg h1, if_neg (fun q => h2 q.2.2), if_neg (by omega), e4 6 c (fun q => absurd q.1 (by decide)) (fun q => absurd q.1 (by decide)), row_k (by decide)]
      · by_cases e5 : l' = l
        · subst e5
          have q := f4 (12 * c + l') (fun l'' a1 a2 => by omega)
          rw [q.1, q.2, st_k (by decide), st_k (by decide)]
          exact ⟨e2, e3⟩
        · exact f3 l' (by omega) h2
      · have q := f4 i (fun l' a1 a2 => hi l' (by omega) a2)
        have hne := hi l (Nat.le_refl _) (by omega)
        rw [q.1, q.2, st_k (by decide), st_k (by decide), e4 8 i (fun q => hne q.2) (fun q => absurd q.1 (by decide)), e4 9 i (fun q => absurd q.1 (by decide)) (fun q => hne q.2), mm_row_ne (fun q => hne q.2), row_k (by decide)]
        exact ⟨rfl, rfl⟩
      · rw [f5 i hi, st_o hi, e4 6 i (fun q => absurd q.1 (by decide)) (fun q => absurd q.1 (by decide)), row_k (by decide)]
      · rw [f6 h a1 a2 a3, st_k a1]
        funext i
        rw [e4 h i (fun q => a2 q.1) (fun q => a3 q.1), row_k a2]
theorem i_Co {b n zm ym c : Nat} (hn : n ≤ 12) {g : mm_M} {z y : Nat} (hz0 : cb b n c + 3 + 2 * n ≤ zm) (hz : z = cb b n c + 1) (hy : y + 200 + 11 * n ≤ ym) (h0 : g 5 c = rZ) : ∃ g', v_Co_init n (adr b n) zm ym g z y c (nI n) = some (g', cb b n c + 3 + 2 * n, y + 200 + n + 10 * n) ∧ g' 5 c = r5 ∧ g' 7 c = rZ ∧ (∀ j, j < n → g' 6 c j = 1) ∧ (∀ l, l < n → g' 8 (12 * c + l) = r8 ∧ g' 9 (12 * c + l) = rZ) ∧ (∀ i, i ≠ c → g' 5 i = g 5 i ∧ g' 6 i = g 6 i ∧ g' 7 i = g 7 i) ∧ (∀ i, (∀ l, l < n → i ≠ 12 * c + l) → g' 8 i = g 8 i ∧ g' 9 i = g 9 i) ∧ ∀ h, h ≠ 5 → h ≠ 6 → h ≠ 7 → h ≠ 8 → h ≠ 9 → g' h = g h := by
  unfold v_Co_init
  rw [ln_t (by rfl) (by decide), al_t (by rw [adr_7]; exact hz) (by omega) (by omega), let_e, let_e, let_e, ln_t (by rfl) (by omega), al_t (by rw [adr_6]; omega) (by omega) (by omega), let_e, let_e]
  obtain ⟨G, hG⟩ : ∃ G, G = mm_st (mm_row (mm_st (mm_st (mm_row g 7 c (fun _ => 0)) 5 c 1 1) 5 c 3 (-1)) 6 c (fun _ => 0)) 5 c 0 1 := ⟨_, rfl⟩
  rw [← hG]
  have k5 : G 5 c = r5 := by
    rw [hG]
    funext j
    rcases j with _ | _ | _ | _ | _ | j <;> simp [st_ap, row_k, h0, r5, rZ]
  have k7 : G 7 c = rZ := by
    rw [hG, st_k (by decide), row_k (by decide), st_k (by decide), st_k (by decide), row_self]
    rfl
  have ko : ∀ h i, ¬ (h = 5 ∧ i = c) → ¬ (h = 6 ∧ i = c) → ¬ (h = 7 ∧ i = c) → G h i = g h i := fun h i a1 a2 a3 => by
    rw [hG, st_nr a1, mm_row_ne a2, st_nr a1, st_nr a1, mm_row_ne a3]
  obtain ⟨g', f1, f2, f3, f4, f5, f6⟩ := i_Col (b := b) (ym := ym) hn hz0 4096 n 0 G (z + 1 + 1) (y + 200 + n) (by omega) (by omega) (by omega) (by omega) (by rw [k5]; rfl)
  refine ⟨g', f1, ?_, ?_, fun j hj => ?_, fun l hl => f3 l (by omega) hl, fun i hi => ⟨?_, ?_, ?_⟩, fun i hi => ?_, fun h a1 a2 a3 a4 a5 => ?_⟩
  · rw [f6 5 (by decide) (by decide) (by decide), k5]
  · rw [f6 7 (by decide) (by decide) (by decide), k7]
  · rw [f2 j, if_pos ⟨Nat.zero_le _, hj⟩]
  · rw [f6 5 (by decide) (by decide) (by decide), ko 5 i (fun q => hi q.2) (fun q => hi q.2) (fun q => hi q.2)]
  · rw [f5 i hi, ko 6 i (fun q => hi q.2) (fun q => hi q.2) (fun q => hi q.2)]
  · rw [f6 7 (by decide) (by decide) (by decide), ko 7 i (fun q => hi q.2) (fun q => hi q.2) (fun q => hi q.2)]
  · have q := f4 i (fun l _ a2 => hi l a2)
    rw [q.1, q.2, ko 8 i (fun q => absurd q.1 (by decide)) (fun q => absurd q.1 (by decide)) (fun q => absurd q.1 (by decide)), ko 9 i (fun q => absurd q.1 (by decide)) (fun q => absurd q.1 (by decide)) (fun q => absurd q.1 (by decide))]
    exact ⟨rfl, rfl⟩
  · rw [f6 h a2 a4 a5]
    funext i
    rw [ko h i (fun q => a1 q.1) (fun q => a2 q.1) (fun q => a3 q.1)]
theorem i_Li {b n zm ym : Nat} {g : mm_M} {z y d : Nat} (hz : z = b + 19 + 6 * n + 3 * d) (hzm : z + 2 ≤ zm) (hym : y + 8 ≤ ym) (h0 : g 14 d = rZ) : ∃ g', v_Li_init n (adr b n) zm ym g z y d = some (g', z + 1 + 1, y + 4 + 4) ∧ g' 14 d = r14 ∧ g' 15 d = rZ ∧ g' 16 d = rZ ∧ ∀ h i, ¬ (h = 14 ∧ i = d) → ¬ (h = 15 ∧ i = d) → ¬ (h = 16 ∧ i = d) → g' h i = g h i := by
  unfold v_Li_init
  rw [ln_t (by rfl) (by decide), al_t (by rw [adr_15]; exact hz) (by omega) (by omega), let_e, let_e, ln_t (by rfl) (by decide), al_t (by rw [adr_16]; omega) (by omega) (by omega)]
  refine ⟨_, rfl, ?_, ?_, ?_, fun h i h1 h2 h3 => ?_⟩
  · funext j
    rcases j with _ | _ | j <;> simp [st_ap, row_k, h0, r14, rZ]
  · funext j
    simp [st_ap, row_self, row_k, rZ]
  · funext j
    simp [st_ap, row_self, rZ]
  · rw [st_nr h1, mm_row_ne h3, st_nr h1, mm_row_ne h2]
theorem i_Mal {b n zm ym : Nat} (hn : n ≤ 12) (hz0 : b + 18 + 12 * n ≤ zm) : ∀ (K r d : Nat) (g : mm_M) (z y : Nat), d + r = 2 * n → r < K → z = b + 18 + 6 * n + 3 * d → y + 13 * r ≤ ym → g 12 0 3 = 1 → ∃ g', v_Ma_init_l32 n (adr b n) zm ym K g z y (nI d) = some (g', b + 18 + 12 * n, y + 13 * r) ∧ (∀ j, g' 13 0 j = if d ≤ j ∧ j < 2 * n then 1 else g 13 0 j) ∧ (∀ d', d ≤ d' → d' < 2 * n → g' 14 d' = r14 ∧ g' 15 d' = rZ ∧ g' 16 d' = rZ) ∧ (∀ i, i < d → g' 14 i = g 14 i ∧ g' 15 i = g 15 i ∧ g' 16 i = g 16 i) ∧ ∀ h, h ≠ 13 → h ≠ 14 → h ≠ 15 → h ≠ 16 → g' h = g h := by
  intro K
  induction K with
  | zero =>
    intro r d g z y _ h2
    omega
  | succ K ih =>
    intro r d g z y hs hr hz hy h5
    rw [v_Ma_init_l32, nn_1 h5, lt_t (by rw [adr_13]; omega)]
    cases r with
    | zero =>
      have hln : d = 2 * n := by omega
      subst hln
      rw [if_pos (show Int32.ofNat (2 * n) ≤ nI (2 * n) from (nI_L (a := 2 * n) (b := 2 * n) (by omega) (by omega)).mpr (Nat.le_refl _)), hz]
      refine ⟨g, by rw [show b + 18 + 6 * n + 3 * (2 * n) = b + 18 + 12 * n by omega]; rfl, fun j => ?_, fun l' h1 h2 => absurd h2 (by omega), fun i _ => ⟨rfl, rfl, rfl⟩, fun h _ _ _ _ => rfl⟩
      rw [if_neg (by omega)]
    | succ r =>
      have e : ¬ Int32.ofNat (2 * n) ≤ nI d := fun q => by
        have := (nI_L (a := 2 * n) (by omega) (by omega)).mp q
        omega
      rw [if_neg e, nn_1 h5, lt_t (by rw [adr_13]; omega), ix_n (by omega) (by omega), nI_cl (by omega), al_t (by rw [adr_14]; exact hz) (by omega) (by omega), let_e, gd_t (by omega) (by omega)]
      obtain ⟨g1, e1, e2, e3, e3', e4⟩ := i_Li (b := b) (n := n) (zm := zm) (ym := ym) (g := mm_row g 14 d (fun _ => 0)) (z := z + 1) (y := y + 5) (d := d) (by omega) (by omega) (by omega) row_self
      rw [e1, bv_s, ix_n (by omega) (by omega), let_e, nI_s1]
      have h5' : mm_st g1 13 0 d 1 12 0 3 = 1 := by
        rw [st_k (by decide), e4 12 0 (fun q => absurd q.1 (by decide)) (fun q => absurd q.1 (by decide)) (fun q => absurd q.1 (by decide)), row_k (by decide)]
        exact h5
      obtain ⟨g', f1, f2, f3, f4, f6⟩ := ih r (d + 1) (mm_st g1 13 0 d 1) (z + 1 + 1 + 1) (y + 5 + 4 + 4) (by omega) (by omega) (by omega) (by omega) h5'
      rw [f1]
      refine ⟨g', by rw [show y + 5 + 4 + 4 + 13 * r = y + 13 * (r + 1) by omega], fun j => ?_, fun d' h1 h2 => ?_, fun i hi => ?_, fun h a0 a1 a2 a3 => ?_⟩
      · rw [f2 j, st_ap]
        by_cases h1 : d + 1 ≤ j ∧ j < 2 * n
        · rw [if_pos h1, if_pos (by omega)]
        · by_cases h2 : j = d
          · rw [if_neg h1, if_pos ⟨rfl, rfl, h2⟩, if_pos (by omega)]
          · rw [if_neg h1, if_neg (fun q => h2 q.2.2), if_neg (by omega), e4 13 0 (fun q => absurd q.1 (by decide)) (fun q => absurd q.1 (by decide)) (fun q => absurd q.1 (by decide)), row_k (by decide)]
      · by_cases e5 : d' = d
        · subst e5
          have q := f4 d' (by omega)
          rw [q.1, q.2.1, q.2.2, st_k (by decide), st_k (by decide), st_k (by decide)]
          exact ⟨e2, e3, e3'⟩
        · exact f3 d' (by omega) h2
      · have q := f4 i (by omega)
        have hne : i ≠ d := by omega
        rw [q.1, q.2.1, q.2.2, st_k (by decide), st_k (by decide), st_k (by decide), e4 14 i (fun q => hne q.2) (fun q => absurd q.1 (by decide)) (fun q => absurd q.1 (by decide)), e4 15 i (fun q => absurd q.1 (by decide)) (fun q => hne q.2) (fun q => absurd q.1 (by decide)), e4 16 i (fun q => absurd q.1 (by decide)) (fun q => absurd q.1 (by decide)) (fun q => hne q.2), mm_row_ne (fun q => hne q.2), row_k (by decide), row_k (by decide)]
        exact ⟨rfl, rfl, rfl⟩
      · rw [f6 h a0 a1 a2 a3, st_k a0]
        funext i
        rw [e4 h i (fun q => a1 q.1) (fun q => a2 q.1) (fun q => a3 q.1), row_k a1]
theorem i_Ma {b n zm ym : Nat} (hn : n ≤ 12) {g : mm_M} {z y : Nat} (hz0 : b + 18 + 12 * n ≤ zm) (hz : z = b + 17 + 6 * n) (hy : y + 2 * n + 26 * n ≤ ym) : ∃ g', v_Ma_init n (adr b n) zm ym g z y (nI n) = some (g', b + 18 + 12 * n, y + 2 * n + 13 * (2 * n)) ∧ g' 12 0 0 = nI n ∧ g' 12 0 1 = 1 ∧ g' 12 0 2 = 1 ∧ g' 12 0 3 = 1 ∧ (∀ j, j < 2 * n → g' 13 0 j = 1) ∧ (∀ d, d < 2 * n → g' 14 d = r14 ∧ g' 15 d = rZ ∧ g' 16 d = rZ) ∧ ∀ h, h ≠ 12 → h ≠ 13 → h ≠ 14 → h ≠ 15 → h ≠ 16 → g' h = g h := by
  unfold v_Ma_init
  rw [let_e, let_e, let_e, ln_t (x := 2 * nI n) (N := 2 * n) (pk_mul 2 n) (by omega), al_t (by rw [adr_13]; exact hz) (by omega) (by omega), let_e, let_e]
  obtain ⟨G, hG⟩ : ∃ G, G = mm_st (mm_row (mm_st (mm_st (mm_st g 12 0 0 (nI n)) 12 0 1 1) 12 0 2 1) 13 0 (fun _ => 0)) 12 0 3 1 := ⟨_, rfl⟩
  rw [← hG]
  have k0 : G 12 0 0 = nI n := by
    rw [hG]
    simp [st_ap, row_k]
  have k1 : G 12 0 1 = 1 := by
    rw [hG]
    simp [st_ap, row_k]
  have k2 : G 12 0 2 = 1 := by
    rw [hG]
    simp [st_ap, row_k]
  have k3 : G 12 0 3 = 1 := by
    rw [hG]
    simp [st_ap, row_k]
  have ko : ∀ h, h ≠ 12 → h ≠ 13 → G h = g h := fun h a1 a2 => by
    rw [hG, st_k a1, row_k a2, st_k a1, st_k a1, st_k a1]
  obtain ⟨g', f1, f2, f3, f4, f6⟩ := i_Mal (b := b) (ym := ym) hn hz0 4096 (2 * n) 0 G (z + 1) (y + 2 * n) (by omega) (by omega) (by omega) (by omega) k3
  have f12 := f6 12 (by decide) (by decide) (by decide) (by decide)
  refine ⟨g', f1, by rw [f12, k0], by rw [f12, k1], by rw [f12, k2], by rw [f12, k3], fun j hj => by rw [f2 j, if_pos ⟨Nat.zero_le _, hj⟩], fun d hd => f3 d (by omega) hd, fun h a1 a2 a3 a4 a5 => by rw [f6 h a2 a3 a4 a5, ko h a1 a2]⟩
theorem i_Po {b n zm ym : Nat} {g : mm_M} {z y : Nat} (hz : z = b + 15 + 6 * n) (hzm : z + 1 ≤ zm) (hym : y + 240 ≤ ym) (h0 : g 10 0 = rZ) : ∃ g', v_Po_init n (adr b n) zm ym g z y = some (g', z + 1, y + 240) ∧ g' 10 0 = r10 ∧ g' 11 0 = rZ ∧ ∀ h, h ≠ 10 → h ≠ 11 → g' h = g h := by
  unfold v_Po_init
  rw [ln_t (by rfl) (by decide), al_t (by rw [adr_11]; exact hz) hzm hym]
  refine ⟨_, rfl, ?_, ?_, fun h h1 h2 => ?_⟩
  · funext j
    rcases j with _ | j <;> simp [st_ap, row_k, h0, r10, rZ]
  · funext j
    simp [st_ap, row_self, rZ]
  · rw [st_k h1, row_k h2]
theorem pTr_all : ∀ sh : Fin 3, ∀ l : Fin 12, l.val = 0 ∨ p_Tr_parentByShape (nI l.val) (nI sh.val) = some (pr3 sh.val l.val) := by decide +kernel
theorem pTr {sh l : Nat} (hs : sh < 3) (hl : l < 12) (h1 : 1 ≤ l) : p_Tr_parentByShape (nI l) (nI sh) = some (pr3 sh l) := (pTr_all ⟨sh, hs⟩ ⟨l, hl⟩).resolve_left (fun e => by
  have e : l = 0 := e
  omega)
theorem i_Trl {b n zm ym sh : Nat} (hn : n ≤ 12) (hs : sh < 3) : ∀ (K r l : Nat) (g : mm_M) (z y : Nat), l + r = n → r < K → 1 ≤ l → b + 3 < z → z ≤ zm → y ≤ ym → g 2 0 0 = 1 → ∃ g', v_Tr_init_l20 n (adr b n) zm ym K g z y (nI n) (nI sh) (nI l) = some (g', z, y) ∧ (∀ j, g' 3 0 j = if l ≤ j ∧ j < n then pr3 sh j else g 3 0 j) ∧ ∀ h, h ≠ 3 → g' h = g h := by
  intro K
  induction K with
  | zero =>
    intro r l g z y _ h2
    omega
  | succ K ih =>
    intro r l g z y hs' hr hl hz hzm hy h5
    rw [v_Tr_init_l20]
    cases r with
    | zero =>
      rw [if_pos ((nI_L (by omega) (by omega)).mpr (by omega))]
      refine ⟨g, rfl, fun j => ?_, fun h _ => rfl⟩
      rw [if_neg (by omega)]
    | succ r =>
      have e : ¬ nI n ≤ nI l := fun q => by
        have := (nI_L (by omega) (by omega)).mp q
        omega
      rw [if_neg e, nn_1 h5, lt_t (by rw [adr_3]; omega), gd_t hzm hy, pTr hs (by omega) hl, o1_s, ix_n (by omega) (by omega), nI_cl (by omega), let_e, nI_s1]
      obtain ⟨g', f1, f2, f3⟩ := ih r (l + 1) (mm_st g 3 0 l (pr3 sh l)) z y (by omega) (by omega) (by omega) hz hzm hy (by rw [st_k (by decide)]; exact h5)
      refine ⟨g', f1, fun j => ?_, fun h a1 => by rw [f3 h a1, st_k a1]⟩
      rw [f2 j, st_ap]
      by_cases h1 : l + 1 ≤ j ∧ j < n
      · rw [if_pos h1, if_pos (by omega)]
      · by_cases h2 : j = l
        · rw [if_neg h1, if_pos ⟨rfl, rfl, h2⟩, if_pos (by omega), h2]
        · rw [if_neg h1, if_neg (fun q => h2 q.2.2), if_neg (by omega)]
theorem i_Tr {b n zm ym sh : Nat} (hn : n ≤ 12) (hn2 : 2 ≤ n) (hs : sh < 3) {g : mm_M} {z y : Nat} (hz : z = b + 3) (hzm : z + 1 ≤ zm) (hy : y + n ≤ ym) : ∃ g', v_Tr_init n (adr b n) zm ym g z y (nI n) (nI sh) = some (g', z + 1, y + n) ∧ (∀ j, j < n → g' 3 0 j = pr3 sh j) ∧ g' 2 0 0 = 1 ∧ ∀ h, h ≠ 2 → h ≠ 3 → g' h = g h := by
  unfold v_Tr_init
  rw [ln_t (by rfl) (by omega), al_t (by rw [adr_3]; exact hz) hzm hy, let_e, let_e, nn_1 (st_eq _ _ _ _ _), lt_t (by rw [adr_3]; omega), ix_0 (by omega) (by omega), cl_0, let_e]
  obtain ⟨G, hG⟩ : ∃ G, G = mm_st (mm_st (mm_row g 3 0 (fun _ => 0)) 2 0 0 1) 3 0 0 (-1) := ⟨_, rfl⟩
  rw [← hG]
  have k2 : G 2 0 0 = 1 := by rw [hG, st_k (by decide), st_eq]
  have k3 : G 3 0 0 = -1 := by rw [hG, st_eq]
  have ko : ∀ h, h ≠ 2 → h ≠ 3 → G h = g h := fun h a1 a2 => by rw [hG, st_k a2, st_k a1, row_k a2]
  obtain ⟨g', f1, f2, f3⟩ := i_Trl (b := b) (zm := zm) (ym := ym) hn hs 4096 (n - 1) 1 G (z + 1) (y + n) (by omega) (by omega) (Nat.le_refl _) (by omega) hzm hy k2
  refine ⟨g', f1, fun j hj => ?_, by rw [f3 2 (by decide), k2], fun h a1 a2 => by rw [f3 h a2, ko h a1 a2]⟩
  rw [f2 j]
  by_cases e : 1 ≤ j ∧ j < n
  · rw [if_pos e]
  · have : j = 0 := by omega
    subst this
    rw [if_neg e, k3]
    rfl
/-! the class is made -/
def B0 (n sh : Nat) (g : mm_M) : Prop := g 0 0 0 = nI n ∧ g 0 0 1 = 1 ∧ g 0 0 2 = 1 ∧ g 0 0 3 = 1 ∧ g 1 0 = rZ ∧ g 2 0 0 = 1 ∧ ∀ j, j < n → g 3 0 j = pr3 sh j
def CD (n c : Nat) (g : mm_M) : Prop := ∀ c', c' < c → g 5 c' = r5 ∧ g 7 c' = rZ ∧ g 4 0 c' = 1 ∧ (∀ j, j < n → g 6 c' j = 1) ∧ ∀ l, l < n → g 8 (12 * c' + l) = r8 ∧ g 9 (12 * c' + l) = rZ
def E0 (n sh : Nat) (g : mm_M) : Prop := B0 n sh g ∧ CD n 3 g ∧ g 0 0 4 = 1 ∧ g 0 0 5 = 1 ∧ g 10 0 = r10 ∧ g 11 0 = rZ ∧ g 12 0 0 = nI n ∧ g 12 0 1 = 1 ∧ g 12 0 2 = 1 ∧ g 12 0 3 = 1 ∧ (∀ j, j < 2 * n → g 13 0 j = 1) ∧ ∀ d, d < 2 * n → g 14 d = r14 ∧ g 15 d = rZ ∧ g 16 d = rZ
theorem B0_k {n sh : Nat} {g g' : mm_M} (h : B0 n sh g) (k : ∀ h, h < 4 → g' h = g h) : B0 n sh g' := by
  unfold B0
  rw [k 0 (by decide), k 1 (by decide), k 2 (by decide), k 3 (by decide)]
  exact h
theorem CD_k {n c : Nat} {g g' : mm_M} (h : CD n c g) (k : ∀ h, 4 ≤ h → h < 10 → g' h = g h) : CD n c g' := by
  unfold CD
  rw [k 4 (by decide) (by decide), k 5 (by decide) (by decide), k 6 (by decide) (by decide), k 7 (by decide) (by decide), k 8 (by decide) (by decide), k 9 (by decide) (by decide)]
  exact h
theorem i_LAl {b n zm ym sh : Nat} (hn : n ≤ 12) (hz0 : b + 18 + 12 * n ≤ zm) : ∀ (K r c : Nat) (g : mm_M) (z y : Nat), c + r = 3 → r < K → z = cb b n c → y + 400 * r + 600 ≤ ym → B0 n sh g → CD n c g → ∃ (g' : mm_M) (y' : Nat), v_LA_init_l74 n (adr b n) zm ym K g z y (nI c) = some (g', b + 18 + 12 * n, y') ∧ y' ≤ y + 400 * r + 600 ∧ E0 n sh g' ∧ ∀ h, 20 ≤ h → g' h = g h := by
  intro K
  induction K with
  | zero =>
    intro r c g z y _ h2
    omega
  | succ K ih =>
    intro r c g z y hs hr hz hy hB hC
    rw [v_LA_init_l74]
    cases r with
    | zero =>
      have hc : c = 3 := by omega
      subst hc
      rw [cb_3] at hz
      rw [if_pos (show (3 : Int32) ≤ nI 3 by decide), al_t (by rw [adr_10]; exact hz) (by omega) (by omega), let_e, gd_t (by omega) (by omega)]
      obtain ⟨g1, e1, e2, e3, e4⟩ := i_Po (b := b) (n := n) (zm := zm) (ym := ym) (g := mm_row g 10 0 (fun _ => 0)) (z := z + 1) (y := y + 2) (by omega) (by omega) (by omega) row_self
      rw [e1, bv_s, let_e, al_t (by rw [adr_12]; omega) (by omega) (by omega), let_e]
      obtain ⟨G, hG⟩ : ∃ G, G = mm_row (mm_st g1 0 0 4 1) 12 0 (fun _ => 0) := ⟨_, rfl⟩
      rw [← hG]
      have g1o : ∀ h, h ≠ 10 → h ≠ 11 → g1 h = g h := fun h a1 a2 => by rw [e4 h a1 a2, row_k a1]
      have G0 : ∀ j, j ≠ 4 → G 0 0 j = g 0 0 j := fun j hj => by rw [hG, row_k (by decide), st_j hj, g1o 0 (by decide) (by decide)]
      have G4 : G 0 0 4 = 1 := by rw [hG, row_k (by decide), st_eq]
      have Go : ∀ h, h ≠ 0 → h ≠ 12 → G h = g1 h := fun h a1 a2 => by rw [hG, row_k a2, st_k a1]
      have n0 : G 0 0 0 = nI n := by rw [G0 0 (by decide)]; exact hB.1
      rw [nn_1 (by rw [G0 2 (by decide)]; exact hB.2.2.1), lt_t (by rw [adr_2]; omega), nn_1 G4, lt_t (by rw [adr_10]; omega), gd_t (by omega) (by omega), n0]
      obtain ⟨g2, f1, f2, f3, f4, f5, f6, f7, f8⟩ := i_Ma (b := b) (zm := zm) (ym := ym) hn (g := G) (z := z + 1 + 1 + 1) (y := y + 2 + 240 + 4) hz0 (by omega) (by omega)
      rw [f1, bv_s]
      have h0 := f8 0 (by decide) (by decide) (by decide) (by decide) (by decide)
      have so : ∀ h, h ≠ 0 → mm_st g2 0 0 5 1 h = g2 h := fun h a => st_k a
      refine ⟨mm_st g2 0 0 5 1, y + 2 + 240 + 4 + 2 * n + 13 * (2 * n), rfl, by omega, ⟨?_, ?_, ?_, st_eq _ _ _ _ _, ?_, ?_, ?_, ?_, ?_, ?_, ?_, ?_⟩, fun h hh => ?_⟩
      · obtain ⟨b0, b1, b2, b3, b4, b5, b6⟩ := hB
        refine ⟨?_, ?_, ?_, ?_, ?_, ?_, fun j hj => ?_⟩
        · rw [st_j (by decide), h0, n0]
        · rw [st_j (by decide), h0, G0 1 (by decide), b1]
        · rw [st_j (by decide), h0, G0 2 (by decide), b2]
        · rw [st_j (by decide), h0, G0 3 (by decide), b3]
        · rw [so 1 (by decide), f8 1 (by decide) (by decide) (by decide) (by decide) (by decide), Go 1 (by decide) (by decide), g1o 1 (by decide) (by decide), b4]
        · rw [so 2 (by decide), f8 2 (by decide) (by decide) (by decide) (by decide) (by decide), Go 2 (by decide) (by decide), g1o 2 (by decide) (by decide), b5]
        · rw [so 3 (by decide), f8 3 (by decide) (by decide) (by decide) (by decide) (by decide), Go 3 (by decide) (by decide), g1o 3 (by decide) (by decide), b6 j hj]
      · refine CD_k hC (fun h a1 a2 => ?_)
        rw [so h (by omega), f8 h (by omega) (by omega) (by omega) (by omega) (by omega), Go h (by omega) (by omega), g1o h (by omega) (by omega)]
      · rw [st_j (by decide), h0, G4]
      · rw [so 10 (by decide), f8 10 (by decide) (by decide) (by decide) (by decide) (by decide), Go 10 (by decide) (by decide), e2]
      · rw [so 11 (by decide), f8 11 (by decide) (by decide) (by decide) (by decide) (by decide), Go 11 (by decide) (by decide), e3]
      · rw [so 12 (by decide), f2]
      · rw [so 12 (by decide), f3]
      · rw [so 12 (by decide), f4]
      · rw [so 12 (by decide), f5]
      · rw [so 13 (by decide)]
        exact f6
      · rw [so 14 (by decide), so 15 (by decide), so 16 (by decide)]
        exact f7
      · rw [so h (by omega), f8 h (by omega) (by omega) (by omega) (by omega) (by omega), Go h (by omega) (by omega), g1o h (by omega) (by omega)]
    | succ r =>
      have e : ¬ (3 : Int32) ≤ nI c := fun q => by
        have := (nI_L (a := 3) (by omega) (by omega)).mp q
        omega
      have hlc : cb b n c + 3 + 2 * n ≤ b + 14 + 6 * n := by
        have hc : c = 0 ∨ c = 1 ∨ c = 2 := by omega
        rcases hc with rfl | rfl | rfl
        · rw [cb_0]; omega
        · rw [cb_1]; omega
        · rw [cb_2]; omega
      have hge : b + 5 ≤ cb b n c := by
        unfold cb
        omega
      rw [if_neg e, nn_1 hB.2.2.2.1, lt_t (by rw [adr_4]; omega), ix_n (by omega) (by omega), nI_cl (by omega), al_t (by rw [adr_5]; exact hz) (by omega) (by omega), let_e, gd_t (by omega) (by omega), row_k (show 0 ≠ 5 by decide), hB.1]
      obtain ⟨g1, e1, e2, e3, e4, e5, e6, e7, e8⟩ := i_Co (b := b) (n := n) (zm := zm) (ym := ym) (c := c) hn (g := mm_row g 5 c (fun _ => 0)) (z := z + 1) (y := y + 5) (by omega) (by omega) (by omega) row_self
      rw [e1, bv_s, ix_n (by omega) (by omega), let_e, nI_s1]
      have so : ∀ h, h ≠ 4 → mm_st g1 4 0 c 1 h = g1 h := fun h a => st_k a
      have go : ∀ h, h ≠ 5 → h ≠ 6 → h ≠ 7 → h ≠ 8 → h ≠ 9 → g1 h = g h := fun h a1 a2 a3 a4 a5 => by rw [e8 h a1 a2 a3 a4 a5, row_k a1]
      have hB' : B0 n sh (mm_st g1 4 0 c 1) := B0_k hB (fun h a => by rw [so h (by omega), go h (by omega) (by omega) (by omega) (by omega) (by omega)])
      have hC' : CD n (c + 1) (mm_st g1 4 0 c 1) := by
        intro c' hc'
        rw [so 5 (by decide), so 6 (by decide), so 7 (by decide), so 8 (by decide), so 9 (by decide)]
        by_cases ec : c' = c
        · subst ec
          exact ⟨e2, e3, st_eq _ _ _ _ _, e4, e5⟩
        · obtain ⟨q1, q2, q3, q4, q5⟩ := hC c' (by omega)
          have w := e6 c' ec
          rw [mm_row_ne (fun q => ec q.2)] at w
          refine ⟨by rw [w.1, q1], by rw [w.2.2, row_k (by decide), q2], by rw [st_j ec, go 4 (by decide) (by decide) (by decide) (by decide) (by decide), q3], fun j hj => by rw [w.2.1, row_k (by decide), q4 j hj], fun l hl => ?_⟩
          have v := e7 (12 * c' + l) (fun l' hl' => by omega)
          rw [v.1, v.2, row_k (by decide), row_k (by decide)]
          exact q5 l hl
      obtain ⟨g', y', w1, w2, w3, w4⟩ := ih r (c + 1) (mm_st g1 4 0 c 1) (cb b n c + 3 + 2 * n) (y + 5 + 200 + n + 10 * n) (by omega) (by omega) (cb_S b n c).symm (by omega) hB' hC'
      exact ⟨g', y', w1, by omega, w3, fun h hh => by rw [w4 h hh, so h (by omega), go h (by omega) (by omega) (by omega) (by omega) (by omega)]⟩
theorem i_LAb {b n zm ym sh : Nat} (hn : n ≤ 12) (hn2 : 2 ≤ n) (hs : sh < 3) {g : mm_M} {z y : Nat} (hz0 : b + 18 + 12 * n ≤ zm) (hz : z = b + 3) (hy : y + 1850 ≤ ym) (h0 : g 0 0 0 = nI n) (h1 : g 0 0 1 = 1) (h2 : g 1 0 = rZ) : ∃ (g' : mm_M) (y' : Nat), v_LA_init_b58 n (adr b n) zm ym g z y (nI n) (nI sh) = some (g', b + 18 + 12 * n, y') ∧ y' ≤ y + 1850 ∧ E0 n sh g' ∧ ∀ h, 20 ≤ h → g' h = g h := by
  obtain ⟨F, hF⟩ : ∃ F, F = 4096 := ⟨4096, rfl⟩
  have u : v_LA_init_b58 n (adr b n) zm ym g z y (nI n) (nI sh) = mm_gd z zm y ym (mm_bv (v_Tr_init n (adr b n) zm ym g z y (nI n) (nI sh)) (fun g1 z2 y3 => mm_let (mm_st g1 0 0 2 1) (fun g6 => mm_ln 3 3 (mm_al z2 (adr b n 4 0) zm y3 3 ym (mm_let (mm_row g6 4 0 (fun _ => 0)) (fun g10 => mm_let (mm_st g10 0 0 3 1) (fun g12 => v_LA_init_l74 n (adr b n) zm ym F g12 (z2 + 1) (y3 + 3) 0))))))) := by
    rw [hF]
    rfl
  obtain ⟨g1, e1, e2, e3, e4⟩ := i_Tr (b := b) (zm := zm) (ym := ym) hn hn2 hs (g := g) (z := z) (y := y) hz (by omega) (by omega)
  rw [u, gd_t (by omega) (by omega), e1, bv_s, let_e, ln_t (by rfl) (by decide), al_t (by rw [adr_4]; omega) (by omega) (by omega), let_e, let_e]
  obtain ⟨G, hG⟩ : ∃ G, G = mm_st (mm_row (mm_st g1 0 0 2 1) 4 0 (fun _ => 0)) 0 0 3 1 := ⟨_, rfl⟩
  rw [← hG]
  have Go : ∀ h, h ≠ 0 → h ≠ 4 → G h = g1 h := fun h a1 a2 => by rw [hG, st_k a1, row_k a2, st_k a1]
  have hB : B0 n sh G := by
    refine ⟨?_, ?_, ?_, ?_, ?_, ?_, fun j hj => ?_⟩
    · rw [hG, st_j (by decide), row_k (by decide), st_j (by decide), e4 0 (by decide) (by decide), h0]
    · rw [hG, st_j (by decide), row_k (by decide), st_j (by decide), e4 0 (by decide) (by decide), h1]
    · rw [hG, st_j (by decide), row_k (by decide), st_eq]
    · rw [hG, st_eq]
    · rw [Go 1 (by decide) (by decide), e4 1 (by decide) (by decide), h2]
    · rw [Go 2 (by decide) (by decide), e3]
    · rw [Go 3 (by decide) (by decide), e2 j hj]
  obtain ⟨g', y', w1, w2, w3, w4⟩ := i_LAl (b := b) (zm := zm) (ym := ym) hn hz0 4096 3 0 G (z + 1 + 1) (y + n + 3) (by omega) (by omega) (by rw [cb_0]; omega) (by omega) hB (fun c' hc' => absurd hc' (Nat.not_lt_zero _))
  rw [← hF] at w1
  clear hF
  exact ⟨g', y', w1, by omega, w3, fun h hh => by rw [w4 h hh, Go h (by omega) (by omega), e4 h (by omega) (by omega)]⟩
theorem nrm_n (x : Int32) : ∃ n, 2 ≤ n ∧ n ≤ 12 ∧ ((x < 2 ∧ n = 6) ∨ (¬ x < 2 ∧ 12 < x ∧ ¬ x ≤ 12 ∧ n = 6) ∨ (¬ x < 2 ∧ ¬ 12 < x ∧ x ≤ 12 ∧ x = nI n)) := by
  by_cases h1 : x < 2
  · exact ⟨6, by decide, by decide, Or.inl ⟨h1, rfl⟩⟩
  · by_cases h2 : 12 < x
    · exact ⟨6, by decide, by decide, Or.inr (Or.inl ⟨h1, h2, i_nle h2, rfl⟩)⟩
    · have a1 : (2 : Int) ≤ x.toInt := by
        have q : ¬ x.toInt < (2 : Int32).toInt := fun q => h1 (Int32.lt_iff_toInt_lt.mpr q)
        have q2 : (2 : Int32).toInt = 2 := by decide
        omega
      have a2 : x.toInt ≤ 12 := by
        have q : ¬ (12 : Int32).toInt < x.toInt := fun q => h2 (Int32.lt_iff_toInt_lt.mpr q)
        have q2 : (12 : Int32).toInt = 12 := by decide
        omega
      have a3 : x ≤ 12 := Int32.le_iff_toInt_le.mpr (by
        have q2 : (12 : Int32).toInt = 12 := by decide
        omega)
      obtain ⟨k, hk, e⟩ := nI_of (x := x) (fun q => by
        have q1 := Int32.lt_iff_toInt_lt.mp q
        have q2 : (0 : Int32).toInt = 0 := by decide
        omega)
      have a4 : x.toInt = (k : Int) := by rw [e]; exact nI_toInt hk
      exact ⟨k, by omega, by omega, Or.inr (Or.inr ⟨h1, h2, a3, e⟩)⟩
theorem nrm_s (x : Int32) : ∃ sh, sh < 3 ∧ ((x < 0 ∧ sh = 0) ∨ (¬ x < 0 ∧ 2 < x ∧ sh = 0) ∨ (¬ x < 0 ∧ ¬ 2 < x ∧ x = nI sh)) ∧ ((x = 1 ∧ sh = 1) ∨ (x ≠ 1 ∧ x = 2 ∧ sh = 2) ∨ (x ≠ 1 ∧ x ≠ 2 ∧ sh = 0)) := by
  by_cases h1 : x < 0
  · refine ⟨0, by decide, Or.inl ⟨h1, rfl⟩, Or.inr (Or.inr ⟨?_, ?_, rfl⟩)⟩
    · rintro rfl
      exact absurd h1 (by decide)
    · rintro rfl
      exact absurd h1 (by decide)
  · by_cases h2 : 2 < x
    · refine ⟨0, by decide, Or.inr (Or.inl ⟨h1, h2, rfl⟩), Or.inr (Or.inr ⟨?_, ?_, rfl⟩)⟩
      · rintro rfl
        exact absurd h2 (by decide)
      · rintro rfl
        exact absurd h2 (by decide)
    · obtain ⟨k, hk, e⟩ := nI_of (x := x) h1
      have a2 : k ≤ 2 := by
        have q : ¬ nI 2 < nI k := by rw [← e]; exact h2
        rw [nI_T (by decide) hk] at q
        omega
      refine ⟨k, by omega, Or.inr (Or.inr ⟨h1, h2, e⟩), ?_⟩
      have hk3 : k = 0 ∨ k = 1 ∨ k = 2 := by omega
      rcases hk3 with rfl | rfl | rfl
      · refine Or.inr (Or.inr ⟨?_, ?_, rfl⟩)
        · rw [e]; decide
        · rw [e]; decide
      · exact Or.inl ⟨e, rfl⟩
      · refine Or.inr (Or.inl ⟨?_, e, rfl⟩)
        rw [e]; decide
theorem i_LA {b n zm ym sh : Nat} (hn : n ≤ 12) (hn2 : 2 ≤ n) (hs : sh < 3) {g : mm_M} {x1 x2 : Int32} {y : Nat} (hz0 : b + 18 + 12 * n ≤ zm) (hy : y + 1900 ≤ ym) (h0 : g 0 0 = rZ) (q1 : (x1 < 2 ∧ n = 6) ∨ (¬ x1 < 2 ∧ 12 < x1 ∧ ¬ x1 ≤ 12 ∧ n = 6) ∨ (¬ x1 < 2 ∧ ¬ 12 < x1 ∧ x1 ≤ 12 ∧ x1 = nI n)) (q2 : (x2 < 0 ∧ sh = 0) ∨ (¬ x2 < 0 ∧ 2 < x2 ∧ sh = 0) ∨ (¬ x2 < 0 ∧ ¬ 2 < x2 ∧ x2 = nI sh)) : ∃ (g' : mm_M) (y' : Nat), v_LA_init n (adr b n) zm ym g (b + 1) y x1 x2 = some (g', b + 18 + 12 * n, y') ∧ y' ≤ y + 1900 ∧ E0 n sh g' ∧ ∀ h, 20 ≤ h → g' h = g h := by
  have hb : ∀ t1, t1 = nI n → ∃ (g' : mm_M) (y' : Nat), v_LA_init_b22 n (adr b n) zm ym g (b + 1) y x2 t1 = some (g', b + 18 + 12 * n, y') ∧ y' ≤ y + 1900 ∧ E0 n sh g' ∧ ∀ h, 20 ≤ h → g' h = g h := by
    rintro t1 rfl
    unfold v_LA_init_b22
    rw [let_e, ln_t (st_eq _ _ _ _ _) (by omega), al_t (by rw [adr_1] <;> omega) (by omega) (by omega), let_e, let_e, al_t (by rw [adr_2] <;> omega) (by omega) (by omega), let_e]
    obtain ⟨G, hG⟩ : ∃ G, G = mm_row (mm_st (mm_row (mm_st g 0 0 0 (nI n)) 1 0 (fun _ => 0)) 0 0 1 1) 2 0 (fun _ => 0) := ⟨_, rfl⟩
    rw [← hG]
    have k0 : G 0 0 0 = nI n := by rw [hG, row_k (by decide), st_j (by decide), row_k (by decide), st_eq]
    have k1 : G 0 0 1 = 1 := by rw [hG, row_k (by decide), st_eq]
    have k2 : G 1 0 = rZ := by
      rw [hG, row_k (by decide), st_k (by decide), row_self]
      rfl
    rw [k0]
    obtain ⟨g', y', w1, w2, w3, w4⟩ := i_LAb (b := b) (zm := zm) (ym := ym) (sh := sh) hn hn2 hs (g := G) (z := b + 1 + 1 + 1) (y := y + n + 1) hz0 (by omega) (by omega) k0 k1 k2
    refine ⟨g', y', ?_, by omega, w3, fun h hh => by rw [w4 h hh, hG, row_k (by omega), st_k (by omega), row_k (by omega), st_k (by omega)]⟩
    rcases q2 with ⟨a1, rfl⟩ | ⟨a1, a2, rfl⟩ | ⟨a1, a2, a3⟩
    · rw [if_pos a1]
      exact w1
    · rw [if_neg a1, if_pos a2]
      exact w1
    · rw [if_neg a1, if_neg a2, a3]
      exact w1
  unfold v_LA_init v_LA_init_b20
  rcases q1 with ⟨a1, rfl⟩ | ⟨a1, a2, a4, rfl⟩ | ⟨a1, a2, a4, a3⟩
  · rw [if_pos a1]
    exact hb 6 rfl
  · rw [if_neg a1, if_pos a2]
    exact hb 6 rfl
  · rw [if_neg a1, if_neg a2]
    exact hb x1 a3

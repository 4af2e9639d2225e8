/-! The three shapes; walks along arrows end, and so do chains. -/
def pa3 (sh l : Nat) : Nat := if sh = 1 then l - 1 else if sh = 2 then 0 else (l - 1) / 2
theorem pa3_lt (sh : Nat) : ∀ u, 1 ≤ u → pa3 sh u < u := by
  intro u hu
  unfold pa3
  split
  · omega
  · split <;> omega
def an (sh v : Nat) : Nat → Nat → Bool
  | 0, _ => false
  | f + 1, y => y == v || (y != 0 && an sh v f (pa3 sh y))
def sb (sh n v : Nat) : Nat := ((List.range n).filter (an sh v 12)).length
def mu (sh n u v : Nat) : Nat := if 1 ≤ u ∧ pa3 sh u = v then n - sb sh n u else sb sh n v
def nbb (sh u v : Nat) : Bool := (1 ≤ u && pa3 sh u == v) || (1 ≤ v && pa3 sh v == u)
theorem nbb_iff (sh u v : Nat) : nbb sh u v = true ↔ nb (pa3 sh) u v := by
  simp [nbb, nb]
theorem mu_b : ∀ sh, sh < 3 → ∀ n, n < 13 → ∀ u, u < n → ∀ v, v < n → (!nbb sh u v || (decide (1 ≤ mu sh n u v) && decide (mu sh n u v + 1 ≤ n))) = true := by decide +kernel
theorem mu_s : ∀ sh, sh < 3 → ∀ n, n < 13 → ∀ u, u < n → ∀ v, v < n → ∀ w, w < n → (!nbb sh u v || !nbb sh v w || u == w || decide (mu sh n v w < mu sh n u v)) = true := by decide +kernel
def we (ar : Nat → Nat) : Nat → Nat → Nat
  | 0, l => l
  | f + 1, l => if ar l = l then l else we ar f (ar l)
theorem we_add (ar : Nat → Nat) : ∀ m k l, ar (we ar m l) = we ar m l → we ar (m + k) l = we ar m l := by
  intro m
  induction m with
  | zero =>
    intro k l h
    have h : ar l = l := h
    cases k with
    | zero => rfl
    | succ k =>
      show we ar (0 + (k + 1)) l = l
      rw [Nat.zero_add]
      show (if ar l = l then l else we ar k (ar l)) = l
      rw [if_pos h]
  | succ m ih =>
    intro k l h
    rw [show m + 1 + k = m + k + 1 by omega]
    show (if ar l = l then l else we ar (m + k) (ar l)) = (if ar l = l then l else we ar m (ar l))
    by_cases c : ar l = l
    · rw [if_pos c, if_pos c]
    · rw [if_neg c, if_neg c]
      apply ih
      have h : ar (if ar l = l then l else we ar m (ar l)) = (if ar l = l then l else we ar m (ar l)) := h
      rw [if_neg c] at h
      exact h
theorem we_end0 {sh n : Nat} (hs : sh < 3) (hn : n < 13) {ar : Nat → Nat} (h1 : ∀ l, l < n → ar l < n ∧ (ar l = l ∨ nb (pa3 sh) l (ar l))) (h2 : ∀ u, u < n → ar (ar u) = u → ar u = u) : ∀ m u, u < n → ar u ≠ u → mu sh n u (ar u) ≤ m → ar (we ar m (ar u)) = we ar m (ar u) := by
  intro m
  induction m with
  | zero =>
    intro u hu hne hm
    have a := h1 u hu
    have b : nb (pa3 sh) u (ar u) := by
      rcases a.2 with q | q
      · exact absurd q hne
      · exact q
    have c := mu_b sh hs n hn u hu (ar u) a.1
    rw [(nbb_iff sh u (ar u)).mpr b] at c
    simp at c
    omega
  | succ m ih =>
    intro u hu hne hm
    have a := h1 u hu
    have b : nb (pa3 sh) u (ar u) := by
      rcases a.2 with q | q
      · exact absurd q hne
      · exact q
    by_cases c : ar (ar u) = ar u
    · show ar (if ar (ar u) = ar u then ar u else we ar m (ar (ar u))) = (if ar (ar u) = ar u then ar u else we ar m (ar (ar u)))
      rw [if_pos c]
      exact c
    · show ar (if ar (ar u) = ar u then ar u else we ar m (ar (ar u))) = (if ar (ar u) = ar u then ar u else we ar m (ar (ar u)))
      rw [if_neg c]
      have a' := h1 (ar u) a.1
      have b' : nb (pa3 sh) (ar u) (ar (ar u)) := by
        rcases a'.2 with q | q
        · exact absurd q c
        · exact q
      have hw : u ≠ ar (ar u) := fun q => hne (h2 u hu q.symm)
      have d := mu_s sh hs n hn u hu (ar u) a.1 (ar (ar u)) a'.1
      rw [(nbb_iff sh u (ar u)).mpr b, (nbb_iff sh (ar u) (ar (ar u))).mpr b'] at d
      simp [hw] at d
      exact ih (ar u) a.1 c (by omega)
theorem we_end {sh n : Nat} (hs : sh < 3) (hn : n < 13) {ar : Nat → Nat} (h1 : ∀ l, l < n → ar l < n ∧ (ar l = l ∨ nb (pa3 sh) l (ar l))) (h2 : ∀ u, u < n → ar (ar u) = u → ar u = u) {l : Nat} (hl : l < n) : ar (we ar n l) = we ar n l := by
  by_cases c : ar l = l
  · cases n with
    | zero => omega
    | succ m =>
      show ar (if ar l = l then l else we ar m (ar l)) = (if ar l = l then l else we ar m (ar l))
      rw [if_pos c]
      exact c
  · have a := h1 l hl
    have b : nb (pa3 sh) l (ar l) := by
      rcases a.2 with q | q
      · exact absurd q c
      · exact q
    have d := mu_b sh hs n hn l hl (ar l) a.1
    rw [(nbb_iff sh l (ar l)).mpr b] at d
    simp at d
    cases n with
    | zero => omega
    | succ m =>
      show ar (if ar l = l then l else we ar m (ar l)) = (if ar l = l then l else we ar m (ar l))
      rw [if_neg c]
      exact we_end0 hs hn h1 h2 m l hl c (by omega)
theorem we_40 {sh n : Nat} (hs : sh < 3) (hn : n < 13) {ar : Nat → Nat} (h1 : ∀ l, l < n → ar l < n ∧ (ar l = l ∨ nb (pa3 sh) l (ar l))) (h2 : ∀ u, u < n → ar (ar u) = u → ar u = u) {l : Nat} (hl : l < n) : we ar 40 l = we ar n l := by
  rw [show 40 = n + (40 - n) by omega]
  exact we_add ar n (40 - n) l (we_end hs hn h1 h2 hl)
/-! chains -/
def ch (fo : Nat → Nat) : Nat → Nat → Nat
  | 0, m => m
  | f + 1, m => if m = 99 then 99 else ch fo f (fo m)
theorem ch_99 (fo : Nat → Nat) (k : Nat) : ch fo k 99 = 99 := by cases k <;> simp [ch]
theorem ch_succ (fo : Nat → Nat) : ∀ k m, ch fo (k + 1) m = if ch fo k m = 99 then 99 else fo (ch fo k m) := by
  intro k
  induction k with
  | zero =>
    intro m
    rfl
  | succ k ih =>
    intro m
    show (if m = 99 then 99 else ch fo (k + 1) (fo m)) = if (if m = 99 then 99 else ch fo k (fo m)) = 99 then 99 else fo (if m = 99 then 99 else ch fo k (fo m))
    by_cases c : m = 99
    · simp [c]
    · simp only [c, if_false]
      exact ih (fo m)
theorem pig : ∀ (n : Nat) (s : Nat → Nat), (∀ i, i ≤ n → s i < n) → (∀ i j, i < j → j ≤ n → s i ≠ s j) → False := by
  intro n
  induction n with
  | zero =>
    intro s h1 _
    exact absurd (h1 0 (Nat.le_refl 0)) (by omega)
  | succ n ih =>
    intro s h1 h2
    refine ih (fun i => if s i = n then s (n + 1) else s i) ?_ ?_
    · intro i hi
      have a := h1 i (by omega)
      have b := h1 (n + 1) (by omega)
      have c := h2 i (n + 1) (by omega) (by omega)
      show (if s i = n then s (n + 1) else s i) < n
      split <;> omega
    · intro i j hij hj
      have a := h2 i j hij (by omega)
      have b := h2 i (n + 1) (by omega) (by omega)
      have c := h2 j (n + 1) (by omega) (by omega)
      show (if s i = n then s (n + 1) else s i) ≠ (if s j = n then s (n + 1) else s j)
      split <;> split <;> omega
theorem ch_n {n : Nat} (hn : n ≤ 12) {fo : Nat → Nat} {wh : Nat} (hw : wh < n) (h1 : ∀ l, l < n → fo l = 99 ∨ fo l < n) (h2 : ∀ l, l < n → fo l ≠ 99 → fo l ≠ wh) (h3 : ∀ l m, l < n → m < n → fo l = fo m → fo l ≠ 99 → l = m) : ch fo n wh = 99 := by
  have key : ∀ k, ch fo k wh = 99 ∨ ch fo k wh < n := by
    intro k
    induction k with
    | zero => exact Or.inr hw
    | succ k ih =>
      rw [ch_succ]
      rcases ih with q | q
      · exact Or.inl (if_pos q)
      · rw [if_neg (by omega)]
        exact h1 _ q
  have back : ∀ k, ch fo k wh = 99 → ch fo (k + 1) wh = 99 := fun k q => by rw [ch_succ, if_pos q]
  have back2 : ∀ j k, ch fo k wh = 99 → ch fo (k + j) wh = 99 := by
    intro j
    induction j with
    | zero => exact fun k q => q
    | succ j ih => exact fun k q => back _ (ih k q)
  by_cases c : ch fo n wh = 99
  · exact c
  · exfalso
    have all : ∀ i, i ≤ n → ch fo i wh ≠ 99 := fun i hi q => c (by
      have := back2 (n - i) i q
      rw [show i + (n - i) = n by omega] at this
      exact this)
    have lt : ∀ i, i ≤ n → ch fo i wh < n := fun i hi => by
      rcases key i with q | q
      · exact absurd q (all i hi)
      · exact q
    refine pig n (fun i => ch fo i wh) lt ?_
    intro i
    induction i with
    | zero =>
      intro j hj hjn
      cases j with
      | zero => omega
      | succ j =>
        have a := all (j + 1) hjn
        show wh ≠ ch fo (j + 1) wh
        rw [ch_succ, if_neg (all j (by omega))] at a ⊢
        exact (h2 _ (lt j (by omega)) a).symm
    | succ i ih =>
      intro j hj hjn
      cases j with
      | zero => omega
      | succ j =>
        have a := all (i + 1) (by omega)
        show ch fo (i + 1) wh ≠ ch fo (j + 1) wh
        rw [ch_succ, if_neg (all i (by omega))] at a ⊢
        rw [ch_succ, if_neg (all j (by omega))]
        exact fun q => ih j (by omega) (by omega) (h3 _ _ (lt i (by omega)) (lt j (by omega)) q a)
theorem ch_more {fo : Nat → Nat} {n k m : Nat} (h : ch fo n m = 99) (hk : n ≤ k) : ch fo k m = 99 := by
  obtain ⟨j, rfl⟩ := Nat.le.dest hk
  induction j with
  | zero => exact h
  | succ j ih =>
    rw [show n + (j + 1) = n + j + 1 by omega, ch_succ, if_pos (ih (by omega))]
def ce (fo : Nat → Nat) : Nat → Nat → Nat
  | 0, m => m
  | f + 1, m => if fo m = 99 then m else ce fo f (fo m)
theorem ce_end (fo : Nat → Nat) : ∀ m x, x ≠ 99 → ch fo (m + 1) x = 99 → fo (ce fo m x) = 99 := by
  intro m
  induction m with
  | zero =>
    intro x hx h
    simp only [ch, hx, if_false] at h
    exact h
  | succ m ih =>
    intro x hx h
    show fo (if fo x = 99 then x else ce fo m (fo x)) = 99
    by_cases c : fo x = 99
    · rw [if_pos c]
      exact c
    · rw [if_neg c]
      apply ih _ c
      have h : (if x = 99 then 99 else ch fo (m + 1) (fo x)) = 99 := h
      rw [if_neg hx] at h
      exact h
theorem ce_add (fo : Nat → Nat) : ∀ m k x, fo (ce fo m x) = 99 → ce fo (m + k) x = ce fo m x := by
  intro m
  induction m with
  | zero =>
    intro k x h
    have h : fo x = 99 := h
    cases k with
    | zero => rfl
    | succ k =>
      rw [Nat.zero_add]
      show (if fo x = 99 then x else ce fo k (fo x)) = x
      rw [if_pos h]
  | succ m ih =>
    intro k x h
    rw [show m + 1 + k = m + k + 1 by omega]
    show (if fo x = 99 then x else ce fo (m + k) (fo x)) = (if fo x = 99 then x else ce fo m (fo x))
    have h : fo (if fo x = 99 then x else ce fo m (fo x)) = 99 := h
    by_cases c : fo x = 99
    · rw [if_pos c, if_pos c]
    · rw [if_neg c] at h
      rw [if_neg c, if_neg c]
      exact ih k _ h
/-! how a copy is placed: each arrow is the first step towards it -/
def sw0 (sh fr : Nat) : Nat → Nat → Nat
  | 0, _ => pa3 sh fr
  | f + 1, b => if b ≤ fr then pa3 sh fr else if pa3 sh b = fr then b else sw0 sh fr f (pa3 sh b)
def sw (sh fr to : Nat) : Nat := if fr = to then fr else sw0 sh fr 12 to
theorem sw_b : ∀ sh, sh < 3 → ∀ t, t < 12 → ∀ l, l < 12 → (l == t || (nbb sh l (sw sh l t) && decide (sw sh l t ≤ max l t) && sw sh l t != l && sw sh (sw sh l t) t != l)) = true := by decide +kernel
theorem P1_place {sh n t : Nat} (hs : sh < 3) (hn : n ≤ 12) (ht : t < n) : P1 n (pa3 sh) (fun l => sw sh l t) (fun _ => 99) (pu (fun _ => 0) t 4) t 0 (fun _ _ => none) := by
  have key : ∀ l, l < n → l ≠ t → nb (pa3 sh) l (sw sh l t) ∧ sw sh l t < n ∧ sw sh l t ≠ l ∧ sw sh (sw sh l t) t ≠ l := fun l hl hne => by
    have a := sw_b sh hs t (by omega) l (by omega)
    simp [hne] at a
    refine ⟨(nbb_iff _ _ _).mp a.1.1.1, by omega, a.1.2, a.2⟩
  have kt : sw sh t t = t := by simp [sw]
  refine ⟨⟨ht, by omega⟩, ?_, ?_, ?_, ?_, ?_, ?_, ?_, ?_, ?_, ?_, ?_, ?_⟩
  · intro l hl
    by_cases c : l = t
    · subst c
      simp only [kt, pu_e]
      exact ⟨hl, by simp, by simp, by omega⟩
    · have a := key l hl c
      rw [pu_n c]
      exact ⟨a.2.1, Or.inr a.1, Or.inl rfl, by omega⟩
  · intro l hl
    by_cases c : l = t
    · subst c
      simp only [kt, pu_e]
      simp
    · have a := key l hl c
      rw [pu_n c]
      refine ⟨fun _ => rfl, fun _ => ⟨rfl, a.2.2.1⟩, fun q => absurd q (by omega)⟩
  · intro q
    cases q
  · rw [pu_e]
    omega
  · intro d k x hx
    cases hx
  · intro l _ q
    exact absurd rfl q
  · intro l m _ _ _ q
    exact absurd rfl q
  · intro d k x l hx
    cases hx
  · intro d k e j x hx
    cases hx
  · intro u hu q
    by_cases c : u = t
    · subst c
      exact kt
    · exact absurd q (key u hu c).2.2.2
  · intro d k x hx
    cases hx
  · intro d k x e j y hx
    cases hx

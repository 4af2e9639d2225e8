theorem P1_congr {n : Nat} {pa ar fo st ar' fo' st' : Nat → Nat} {wh iv : Nat} {L L' : Nat → Nat → Option Nat} (hpa : ∀ u, 1 ≤ u → pa u < u) (h : P1 n pa ar fo st wh iv L) (h1 : ∀ l, l < n → ar' l = ar l) (h2 : ∀ l, l < n → fo' l = fo l) (h3 : ∀ l, l < n → st' l = st l) (h4 : ∀ d k, L' d k = L d k) : P1 n pa ar' fo' st' wh iv L' := by
  have hL : L' = L := by
    funext d k
    exact h4 d k
  subst hL
  obtain ⟨a1, a2, a3, a4, a5, a6, a7, a8, a9, a10, a11, a12, a13⟩ := h
  refine ⟨a1, ?_, ?_, ?_, ?_, ?_, ?_, ?_, ?_, a10, ?_, ?_, a13⟩
  · intro l hl
    rw [h1 l hl, h2 l hl, h3 l hl]
    exact a2 l hl
  · intro l hl
    rw [h1 l hl, h2 l hl, h3 l hl]
    exact a3 l hl
  · rw [h3 wh a1.1]
    exact a4
  · rw [h3 wh a1.1]
    exact a5
  · intro d k x hx
    have b := a6 d k x hx
    rw [h3 x b.2.2.1]
    exact b
  · intro l hl
    rw [h2 l hl]
    intro q
    have b := a7 l hl q
    have c := (a2 l hl).2.2.1
    rw [h3 (fo l) (by rcases c with c | c; exact absurd c q; exact c)]
    exact b
  · intro l m hl hm
    rw [h2 l hl, h2 m hm]
    exact a8 l m hl hm
  · intro d k x l hx hl
    rw [h2 l hl]
    exact a9 d k x l hx hl
  · intro u hu
    rw [h1 u hu, h1 (ar u) (a2 u hu).1]
    exact a11 u hu
  · intro d k x hx
    have b := a6 d k x hx
    have s := sd_nb hpa b.1 b.2.1
    rw [h1 _ s.1, h1 _ s.2.1]
    exact a12 d k x hx
theorem Pr_ack {n sh T : Nat} {A : mm_A} (h : Pr n sh T A) {d : Nat} (hd : d < 2 * n) (hlt : A 6 d 0 < A 6 d 2) : Pr n sh T (as A 6 d 0 (A 6 d 0 + 1)) := by
  obtain ⟨p1, p2, p3, p4, p5⟩ := h
  have g : ∀ a, a ≠ 6 → as A 6 d 0 (A 6 d 0 + 1) a = A a := fun a z => as_f z
  have hL : ∀ c, Lv n (as A 6 d 0 (A 6 d 0 + 1)) c = Lv n A c := fun c => by
    funext d' k
    unfold Lv
    rw [g 7 (by decide), g 8 (by decide)]
    simp [as_ap]
  refine ⟨PrD_fr p1 (g _ (by decide)) (g _ (by decide)), ?_, ?_, ?_, PrU_fr p5 (g _ (by decide))⟩
  · intro c hc
    have a := p2 c hc
    rw [g 5 (by decide), g 4 (by decide), g 3 (by decide)]
    refine ⟨a.1, a.2.1, a.2.2.1, fun w => ?_⟩
    have b := a.2.2.2 w
    unfold PQ at b ⊢
    rw [g 5 (by decide), g 4 (by decide), g 3 (by decide), g 2 (by decide), hL]
    exact b
  · intro d' hd'
    have a := p3 d' hd'
    rw [g 5 (by decide), g 7 (by decide), g 8 (by decide)]
    by_cases e : d' = d
    · subst e
      simp [as_ap]
      exact ⟨by omega, by omega, a.2.2.1, a.2.2.2.1, fun k k1 k2 => a.2.2.2.2 k (by omega) k2⟩
    · rw [as_i e]
      exact a
  · refine ⟨by rw [g 9 (by decide)]; exact p4.1, fun i hi => ?_⟩
    rw [g 9 (by decide)] at hi
    have z := p4.2 i hi
    unfold PkP at z ⊢
    rw [g 10 (by decide), g 7 (by decide), g 8 (by decide)]
    refine ⟨z.1, z.2.1, z.2.2.1, z.2.2.2.1, fun w => ?_, fun w => ?_⟩
    · have y := z.2.2.2.2.1 w
      by_cases e : dr (pa3 sh) (A 10 i 1) (A 10 i 2) = d
      · rw [e] at y ⊢
        rw [as_e]
        exact ⟨by omega, fun u => by omega⟩
      · rw [as_i e]
        exact y
    · have y := z.2.2.2.2.2 w
      rw [as_ap, if_neg (by omega)]
      exact y
theorem Pr_q {n sh T : Nat} {A : mm_A} (h : Pr n sh T A) {c l x : Nat} (hx : x ≤ 4) (hq : A 4 c l = 1 ∨ A 4 c l = 2 → 1 ≤ x) : Pr n sh T (as A 1 c l x) := by
  obtain ⟨p1, p2, p3, p4, p5⟩ := h
  have g : ∀ a, a ≠ 1 → as A 1 c l x a = A a := fun a z => as_f z
  refine ⟨?_, PrC_fr p2 (g _ (by decide)) (g _ (by decide)) (g _ (by decide)) (g _ (by decide)) (g _ (by decide)) (g _ (by decide)) (g _ (by decide)), PrL_fr p3 (g _ (by decide)) (g _ (by decide)) (g _ (by decide)) (g _ (by decide)), PrP_fr p4 (g _ (by decide)) (g _ (by decide)) (g _ (by decide)) (g _ (by decide)) (g _ (by decide)), PrU_fr p5 (g _ (by decide))⟩
  intro c' l' hc' hl'
  have a := p1 c' l' hc' hl'
  rw [g 4 (by decide), as_ap]
  by_cases e : c' = c ∧ l' = l
  · obtain ⟨rfl, rfl⟩ := e
    rw [if_pos ⟨rfl, rfl, rfl⟩]
    exact ⟨hx, a.2.1, hq⟩
  · rw [if_neg (fun z => e z.2)]
    exact a
theorem Pr_any {n sh T : Nat} {A : mm_A} (h : Pr n sh T A) {f i j x : Nat} (hf : 12 ≤ f) : Pr n sh T (as A f i j x) := by
  obtain ⟨p1, p2, p3, p4, p5⟩ := h
  have g : ∀ a, a < 12 → as A f i j x a = A a := fun a z => as_f (by omega)
  exact ⟨PrD_fr p1 (g _ (by decide)) (g _ (by decide)), PrC_fr p2 (g _ (by decide)) (g _ (by decide)) (g _ (by decide)) (g _ (by decide)) (g _ (by decide)) (g _ (by decide)) (g _ (by decide)), PrL_fr p3 (g _ (by decide)) (g _ (by decide)) (g _ (by decide)) (g _ (by decide)), PrP_fr p4 (g _ (by decide)) (g _ (by decide)) (g _ (by decide)) (g _ (by decide)) (g _ (by decide)), PrU_fr p5 (g _ (by decide))⟩
theorem Pr_dn {n sh T : Nat} {A : mm_A} (h : Pr n sh T A) {l x : Nat} (hx : x ≤ 1) : Pr n sh T (as A 11 l 0 x) := by
  obtain ⟨p1, p2, p3, p4, p5⟩ := h
  have g : ∀ a, a ≠ 11 → as A 11 l 0 x a = A a := fun a z => as_f z
  refine ⟨PrD_fr p1 (g _ (by decide)) (g _ (by decide)), PrC_fr p2 (g _ (by decide)) (g _ (by decide)) (g _ (by decide)) (g _ (by decide)) (g _ (by decide)) (g _ (by decide)) (g _ (by decide)), PrL_fr p3 (g _ (by decide)) (g _ (by decide)) (g _ (by decide)) (g _ (by decide)), PrP_fr p4 (g _ (by decide)) (g _ (by decide)) (g _ (by decide)) (g _ (by decide)) (g _ (by decide)), ?_⟩
  intro l' hl'
  have a := p5 l' hl'
  rw [as_ap]
  split
  · exact hx
  · exact a
theorem Pr_ln {n sh T : Nat} {A : mm_A} (h : Pr n sh T A) {c x : Nat} (hx : x ≤ 200) : Pr n sh T (as A 5 c 2 x) := by
  obtain ⟨p1, p2, p3, p4, p5⟩ := h
  have g : ∀ a, a ≠ 5 → as A 5 c 2 x a = A a := fun a z => as_f z
  have g0 : ∀ c', as A 5 c 2 x 5 c' 0 = A 5 c' 0 := fun c' => by simp [as_ap]
  have g1 : ∀ c', as A 5 c 2 x 5 c' 1 = A 5 c' 1 := fun c' => by simp [as_ap]
  refine ⟨PrD_fr p1 (g _ (by decide)) (g _ (by decide)), ?_, ?_, PrP_fr p4 (g _ (by decide)) (g _ (by decide)) (g _ (by decide)) (g _ (by decide)) (g _ (by decide)), PrU_fr p5 (g _ (by decide))⟩
  · intro c' hc'
    have a := p2 c' hc'
    rw [g0, g1, g 4 (by decide), g 3 (by decide)]
    refine ⟨?_, a.2.1, a.2.2.1, fun w => ?_⟩
    · rw [as_ap]
      split
      · exact hx
      · exact a.1
    · have b := a.2.2.2 w
      unfold PQ at b ⊢
      rw [g0, g1, g 4 (by decide), g 3 (by decide), g 2 (by decide), Lv_fr (g 6 (by decide)) (g 7 (by decide)) (g 8 (by decide))]
      exact b
  · intro d hd
    have a := p3 d hd
    rw [g 6 (by decide), g 7 (by decide), g 8 (by decide)]
    refine ⟨a.1, a.2.1, a.2.2.1, a.2.2.2.1, fun k k1 k2 => ?_⟩
    rw [g0]
    exact a.2.2.2.2 k k1 k2
def sVan (A : mm_A) (c : Nat) : mm_A := as (as A 5 c 1 0) 4 c (A 5 c 0) 2
theorem Pr_van {n sh T : Nat} {A : mm_A} (h : Pr n sh T A) {c : Nat} (hc : c < 3) (hv : A 5 c 1 ≠ 0) : Pr n sh T (sVan A c) ∧ A 5 c 0 < n ∧ A 5 c 0 ≠ 99 ∧ A 4 c (A 5 c 0) = 1 := by
  obtain ⟨p1, p2, p3, p4, p5⟩ := h
  have q := p2 c hc
  have h5 : A 5 c 0 ≠ 99 := fun e => hv (q.2.2.1 e).1
  have qq := q.2.2.2 h5
  have hw := qq.1.1
  have hs := qq.2.2.2.1 (by omega)
  refine ⟨?_, hw, h5, hs⟩
  have f : ∀ a, a ≠ 4 → a ≠ 5 → sVan A c a = A a := fun a z4 z5 => by
    unfold sVan
    rw [as_f z4, as_f z5]
  have f4 : ∀ c' m, sVan A c 4 c' m = if c' = c ∧ m = A 5 c 0 then 2 else A 4 c' m := fun c' m => by
    simp [sVan, as_ap]
  have f5 : ∀ c' m, sVan A c 5 c' m = if c' = c ∧ m = 1 then 0 else A 5 c' m := fun c' m => by
    simp [sVan, as_ap]
  have f4c : sVan A c 4 c = pu (A 4 c) (A 5 c 0) 2 := by
    funext m
    rw [f4]
    simp [pu]
  have f50 : ∀ c', sVan A c 5 c' 0 = A 5 c' 0 := fun c' => by
    rw [f5]
    simp
  refine ⟨?_, ?_, ?_, PrP_fr p4 (f _ (by decide) (by decide)) (f _ (by decide) (by decide)) (f _ (by decide) (by decide)) (f _ (by decide) (by decide)) (f _ (by decide) (by decide)), PrU_fr p5 (f _ (by decide) (by decide))⟩
  · intro c' l' hc' hl'
    have a := p1 c' l' hc' hl'
    rw [f 1 (by decide) (by decide), f4]
    split
    · rename_i e
      rw [e.1, e.2] at a ⊢
      have := a.2.2 (Or.inl hs)
      exact ⟨a.1, by omega, fun _ => this⟩
    · exact a
  · intro c' hc'
    have a := p2 c' hc'
    by_cases e : c' = c
    · subst e
      rw [f50]
      have e1 : sVan A c' 5 c' 1 = 0 := by
        rw [f5]
        simp
      have e2 : sVan A c' 5 c' 2 = A 5 c' 2 := by
        rw [f5]
        simp
      rw [e1, e2]
      refine ⟨a.1, by omega, fun w => absurd w h5, fun w => ?_⟩
      unfold PQ at qq ⊢
      rw [f50, e1, f4c, f 2 (by decide) (by decide), f 3 (by decide) (by decide), Lv_fr (f 6 (by decide) (by decide)) (f 7 (by decide) (by decide)) (f 8 (by decide) (by decide))]
      exact P1_van qq (by omega)
    · have g4 : sVan A c 4 c' = A 4 c' := by
        funext m
        rw [f4]
        simp [e]
      have g5 : sVan A c 5 c' = A 5 c' := by
        funext m
        rw [f5]
        simp [e]
      rw [g4, g5, f 3 (by decide) (by decide)]
      exact ⟨a.1, a.2.1, a.2.2.1, fun w => PQ_fr (a.2.2.2 w) (by rw [f 2 (by decide) (by decide)]) (by rw [f 3 (by decide) (by decide)]) g4 g5 (f _ (by decide) (by decide)) (f _ (by decide) (by decide)) (f _ (by decide) (by decide))⟩
  · intro d hd
    have a := p3 d hd
    rw [f 6 (by decide) (by decide), f 7 (by decide) (by decide), f 8 (by decide) (by decide)]
    refine ⟨a.1, a.2.1, a.2.2.1, a.2.2.2.1, fun k k1 k2 => ?_⟩
    rw [f50]
    exact a.2.2.2.2 k k1 k2
def sPlace (n sh : Nat) (A : mm_A) (c t : Nat) : mm_A := fun f i j => if f = 2 ∧ i = c ∧ j < n then sw sh j t else if f = 4 ∧ i = c ∧ j = t then 4 else if f = 5 ∧ i = c ∧ j = 0 then t else A f i j
theorem Pr_place {n sh T : Nat} {A : mm_A} (hn : n ≤ 12) (hs : sh < 3) (h : Pr n sh T A) {c t : Nat} (hc : c < 3) (ht : t < n) (h5 : A 5 c 0 = 99) : Pr n sh T (sPlace n sh A c t) := by
  obtain ⟨p1, p2, p3, p4, p5⟩ := h
  have q := p2 c hc
  have q2 := q.2.2.1 h5
  have f : ∀ a, a ≠ 2 → a ≠ 4 → a ≠ 5 → sPlace n sh A c t a = A a := fun a z2 z4 z5 => by
    funext i j
    simp [sPlace, z2, z4, z5]
  have fc : ∀ c', c' ≠ c → ∀ a, sPlace n sh A c t a c' = A a c' := fun c' hne a => by
    funext j
    simp [sPlace, hne]
  have hno : ∀ d k, Lv n A c d k = none := fun d k => by
    rcases e : Lv n A c d k with _ | x
    · rfl
    · exfalso
      unfold Lv at e
      by_cases w : d < 2 * n ∧ A 6 d 2 ≤ k ∧ k < A 6 d 1 ∧ A 7 d k = c
      · have z := p3 d w.1
        have y := z.2.2.2.2 k (by omega) w.2.2.1
        rw [w.2.2.2] at y
        exact y.2.2 h5
      · rw [if_neg w] at e
        cases e
  have e50 : sPlace n sh A c t 5 c 0 = t := by simp [sPlace]
  have e51 : sPlace n sh A c t 5 c 1 = A 5 c 1 := by simp [sPlace]
  have e52 : sPlace n sh A c t 5 c 2 = A 5 c 2 := by simp [sPlace]
  refine ⟨?_, ?_, ?_, PrP_fr p4 (f _ (by decide) (by decide) (by decide)) (f _ (by decide) (by decide) (by decide)) (f _ (by decide) (by decide) (by decide)) (f _ (by decide) (by decide) (by decide)) (f _ (by decide) (by decide) (by decide)), PrU_fr p5 (f _ (by decide) (by decide) (by decide))⟩
  · intro c' l' hc' hl'
    have a := p1 c' l' hc' hl'
    rw [f 1 (by decide) (by decide) (by decide)]
    by_cases e : c' = c ∧ l' = t
    · have e4 : sPlace n sh A c t 4 c' l' = 4 := by simp [sPlace, e]
      rw [e4]
      exact ⟨a.1, by omega, fun w => by omega⟩
    · have e4 : sPlace n sh A c t 4 c' l' = A 4 c' l' := by simp [sPlace, e]
      rw [e4]
      exact a
  · intro c' hc'
    have a := p2 c' hc'
    by_cases e : c' = c
    · subst e
      rw [e50, e51, e52]
      refine ⟨a.1, a.2.1, fun w => by omega, fun _ => ?_⟩
      unfold PQ
      rw [e50, e51, q2.1]
      refine P1_congr (pa3_lt sh) (P1_place hs hn ht) ?_ ?_ ?_ ?_
      · intro l hl
        simp [sPlace, hl]
      · intro l hl
        rw [f 3 (by decide) (by decide) (by decide)]
        exact (q2.2 l hl).2
      · intro l hl
        by_cases e : l = t
        · subst e
          simp [sPlace, pu]
        · simp [sPlace, pu, e]
          exact (q2.2 l hl).1
      · intro d k
        rw [Lv_fr (f 6 (by decide) (by decide) (by decide)) (f 7 (by decide) (by decide) (by decide)) (f 8 (by decide) (by decide) (by decide))]
        exact hno d k
    · have g := fc c' e
      rw [g 5, g 4, f 3 (by decide) (by decide) (by decide)]
      exact ⟨a.1, a.2.1, a.2.2.1, fun w => PQ_fr (a.2.2.2 w) (g 2) (g 3) (g 4) (g 5) (f _ (by decide) (by decide) (by decide)) (f _ (by decide) (by decide) (by decide)) (f _ (by decide) (by decide) (by decide))⟩
  · intro d hd
    have a := p3 d hd
    rw [f 6 (by decide) (by decide) (by decide), f 7 (by decide) (by decide) (by decide), f 8 (by decide) (by decide) (by decide)]
    refine ⟨a.1, a.2.1, a.2.2.1, a.2.2.2.1, fun k k1 k2 => ?_⟩
    have b := a.2.2.2.2 k k1 k2
    refine ⟨b.1, b.2.1, ?_⟩
    by_cases e : A 7 d k = c
    · rw [e] at b
      exact absurd h5 b.2.2
    · rw [fc _ e 5]
      exact b.2.2

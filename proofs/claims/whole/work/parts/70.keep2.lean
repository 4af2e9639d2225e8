/-! asking and taking keep it -/
theorem PQ_no {n sh : Nat} {A : mm_A} {c : Nat} (h : PQ n sh A c) {d : Nat} (hd : A 2 c (sr (pa3 sh) d) = ds (pa3 sh) d) (k : Nat) : Lv n A c d k = none := by
  obtain ⟨-, -, -, -, -, -, -, -, -, -, -, h12, -⟩ := h
  rcases e : Lv n A c d k with _ | x
  · rfl
  · exact absurd hd (h12 d k x e).1
/-- a library that is IDLE: its line has room for what it asks -/
theorem open_ok {n sh T : Nat} {A : mm_A} (hn : n ≤ 12) (hT : T < 1000000) (h : Pr n sh T A) {c l : Nat} (hc : c < 3) (hl : l < n) (h5 : A 5 c 0 ≠ 99) (hne : A 2 c l ≠ l) : A 2 c l < n ∧ nb (pa3 sh) l (A 2 c l) ∧ A 6 (dr (pa3 sh) l (A 2 c l)) 0 ≤ A 6 (dr (pa3 sh) l (A 2 c l)) 1 ∧ A 6 (dr (pa3 sh) l (A 2 c l)) 1 < A 6 (dr (pa3 sh) l (A 2 c l)) 0 + 4 ∧ A 6 (dr (pa3 sh) l (A 2 c l)) 1 < 1000000 := by
  have q := (h.2.1 c hc).2.2.2 h5
  have q1 := q.2.1 l hl
  have q2 : nb (pa3 sh) l (A 2 c l) := by
    rcases q1.2.1 with e | e
    · exact absurd e hne
    · exact e
  obtain ⟨d1, d2, d3, d4, d5⟩ := dr_up (pa3_lt sh) hl q1.1 q2
  have a := h.2.2.1 _ d4
  refine ⟨q1.1, q2, by omega, ?_, by omega⟩
  exact cap0 h.2.1 h.2.2.1 d4 hc (PQ_no q (by rw [d1, d2]))
theorem Pr_send {n sh T : Nat} {A A' : mm_A} {fr to c a : Nat} (hf : fr < n) (ht : to < n) (hnb : nb (pa3 sh) fr to) (h : Pr n sh T (sApp A (dr (pa3 sh) fr to) c a)) : Pr n sh T (sSend sh A fr to c a) := by
  unfold sSend
  split
  · rename_i e
    refine Pr_PF h hf ht hnb ?_
    simp [sApp, as_ap, e]
  · exact h
theorem Pr_open0 {n sh T : Nat} {A : mm_A} (hn : n ≤ 12) (h : Pr n sh T A) {c l : Nat} (hc : c < 3) (hl : l < n) (h5 : A 5 c 0 ≠ 99) (h0 : A 4 c l = 0) (hq : 1 ≤ A 1 c l) : Pr n sh (T + 1) (sOpen sh A c l) := by
  have q := (h.2.1 c hc).2.2.2 h5
  have q1 := q.2.1 l hl
  have q0 := (q.2.2.1 l hl).2.1 h0
  have q2 : nb (pa3 sh) l (A 2 c l) := by
    rcases q1.2.1 with e | e
    · exact absurd e q0.2
    · exact e
  obtain ⟨d1, d2, d3, d4, d5⟩ := dr_up (pa3_lt sh) hl q1.1 q2
  unfold sOpen
  rw [if_neg (by omega), if_pos h0]
  obtain ⟨p1, p2, p3, p4, p5⟩ := h
  have f : ∀ a, a ≠ 2 → a ≠ 4 → as (as A 4 c l 1) 2 c l l a = A a := fun a z1 z2 => by rw [as_f z1, as_f z2]
  have f2 : as (as A 4 c l 1) 2 c l l 2 c = pu (A 2 c) l l := by rw [as_pu, as_f (show 2 ≠ 4 by decide)]
  have f4 : as (as A 4 c l 1) 2 c l l 4 c = pu (A 4 c) l 1 := by rw [as_f (show 4 ≠ 2 by decide), as_pu]
  have fLv : ∀ c', Lv n (as (as A 4 c l 1) 2 c l l) c' = Lv n A c' := fun c' => Lv_fr (f 6 (by decide) (by decide)) (f 7 (by decide) (by decide)) (f 8 (by decide) (by decide))
  refine Pr_send (A' := A) hl q1.1 q2 (Pr_app ?_ ?_ (PrL_fr p3 (f _ (by decide) (by decide)) (f _ (by decide) (by decide)) (f _ (by decide) (by decide)) (f _ (by decide) (by decide))) (PrP_fr p4 (f _ (by decide) (by decide)) (f _ (by decide) (by decide)) (f _ (by decide) (by decide)) (f _ (by decide) (by decide)) (f _ (by decide) (by decide))) (PrU_fr p5 (f _ (by decide) (by decide))) d4 hc hl (by rw [f 5 (by decide) (by decide)]; exact h5) ?_)
  · intro c' l' hc' hl'
    have a := p1 c' l' hc' hl'
    rw [f 1 (by decide) (by decide), as_f (show 4 ≠ 2 by decide), as_ap]
    by_cases e : c' = c ∧ l' = l
    · obtain ⟨rfl, rfl⟩ := e
      simp
      omega
    · rw [if_neg (fun z => e z.2)]
      exact a
  · intro c' hc'
    have a := p2 c' hc'
    rw [f 5 (by decide) (by decide), f 3 (by decide) (by decide)]
    refine ⟨a.1, a.2.1, fun w => ?_, fun hne w => ?_⟩
    · have b := a.2.2.1 w
      refine ⟨b.1, fun m hm => ⟨?_, (b.2 m hm).2⟩⟩
      rw [as_f (show 4 ≠ 2 by decide), as_ap, if_neg (fun z => h5 (by rw [← z.2.1]; exact w))]
      exact (b.2 m hm).1
    · refine PQ_fr (a.2.2.2 w) ?_ (by rw [f 3 (by decide) (by decide)]) ?_ (by rw [f 5 (by decide) (by decide)]) (f _ (by decide) (by decide)) (f _ (by decide) (by decide)) (f _ (by decide) (by decide))
      · rw [as_i hne, as_f (show 2 ≠ 4 by decide)]
      · rw [as_f (show 4 ≠ 2 by decide), as_i hne]
  · rw [f2, f4, f 3 (by decide) (by decide), f 5 (by decide) (by decide), f 6 (by decide) (by decide), fLv]
    exact P1_open hn (pa3_lt sh) q hl h0 (Lv_none (Nat.le_refl _))
theorem Pr_st {n sh T : Nat} {A : mm_A} (h : Pr n sh T A) {c l s : Nat} (hc : c < 3) (hl : l < n) (h2 : 2 ≤ A 4 c l) (hs : 2 ≤ s) (hs4 : s ≤ 4) (hq : s = 2 → 1 ≤ A 1 c l) : Pr n sh T (as A 4 c l s) := by
  obtain ⟨p1, p2, p3, p4, p5⟩ := h
  have f : ∀ a, a ≠ 4 → as A 4 c l s a = A a := fun a z2 => as_f z2
  refine ⟨?_, ?_, PrL_fr p3 (f _ (by decide)) (f _ (by decide)) (f _ (by decide)) (f _ (by decide)), PrP_fr p4 (f _ (by decide)) (f _ (by decide)) (f _ (by decide)) (f _ (by decide)) (f _ (by decide)), PrU_fr p5 (f _ (by decide))⟩
  · intro c' l' hc' hl'
    have a := p1 c' l' hc' hl'
    rw [f 1 (by decide), as_ap]
    by_cases e : c' = c ∧ l' = l
    · obtain ⟨rfl, rfl⟩ := e
      simp
      omega
    · rw [if_neg (fun z => e z.2)]
      exact a
  · intro c' hc'
    have a := p2 c' hc'
    rw [f 5 (by decide), f 3 (by decide)]
    by_cases e : c' = c
    · subst e
      refine ⟨a.1, a.2.1, fun w => ?_, fun w => ?_⟩
      · have b := a.2.2.1 w
        have := (b.2 l hl).1
        omega
      · have b := a.2.2.2 w
        unfold PQ at b ⊢
        rw [f 2 (by decide), f 3 (by decide), f 5 (by decide), as_pu, Lv_fr (f 6 (by decide)) (f 7 (by decide)) (f 8 (by decide))]
        exact P1_state b hl h2 hs hs4
    · rw [as_i e]
      exact ⟨a.1, a.2.1, a.2.2.1, fun w => PQ_fr (a.2.2.2 w) (by rw [f 2 (by decide)]) (by rw [f 3 (by decide)]) (by rw [as_i e]) (by rw [f 5 (by decide)]) (f _ (by decide)) (f _ (by decide)) (f _ (by decide))⟩
theorem Pr_open4 {n sh T : Nat} {A : mm_A} (h : Pr n sh T A) {c l : Nat} (hc : c < 3) (hl : l < n) (h4 : A 4 c l = 4) (hq : 1 ≤ A 1 c l) : Pr n sh T (sOpen sh A c l) := by
  unfold sOpen
  rw [if_pos h4]
  exact Pr_st h hc hl (by omega) (by omega) (by omega) (fun _ => hq)
theorem Pr_on {n sh T : Nat} {A : mm_A} (hn : n ≤ 12) (h : Pr n sh T A) {c l : Nat} (hc : c < 3) (hl : l < n) (h5 : A 5 c 0 ≠ 99) (h3 : 3 ≤ A 4 c l) (hf : A 3 c l ≠ 99) : Pr n sh T (sOn A c l) := by
  obtain ⟨p1, p2, p3, p4, p5⟩ := h
  have f : ∀ a, a ≠ 3 → a ≠ 4 → a ≠ 5 → sOn A c l a = A a := fun a z3 z4 z5 => by
    unfold sOn
    rw [as_f z4, as_f z3, as_f z5, as_f z5]
  have f3 : ∀ c' m, sOn A c l 3 c' m = if c' = c ∧ m = l then 99 else A 3 c' m := fun c' m => by
    simp [sOn, as_ap]
  have f4 : ∀ c' m, sOn A c l 4 c' m = if c' = c ∧ m = l then 0 else A 4 c' m := fun c' m => by
    simp [sOn, as_ap]
  have f5 : ∀ c' m, sOn A c l 5 c' m = if c' = c ∧ m = 1 then 1 else if c' = c ∧ m = 0 then A 3 c l else A 5 c' m := fun c' m => by
    simp [sOn, as_ap]
  have f3c : sOn A c l 3 c = pu (A 3 c) l 99 := by
    funext m
    rw [f3]
    simp [pu]
  have f4c : sOn A c l 4 c = pu (A 4 c) l 0 := by
    funext m
    rw [f4]
    simp [pu]
  have fne : ∀ c', c' ≠ c → sOn A c l 3 c' = A 3 c' ∧ sOn A c l 4 c' = A 4 c' ∧ sOn A c l 5 c' = A 5 c' := fun c' hne => by
    refine ⟨?_, ?_, ?_⟩
    · funext m
      rw [f3]
      simp [hne]
    · funext m
      rw [f4]
      simp [hne]
    · funext m
      rw [f5]
      simp [hne]
  refine ⟨?_, ?_, ?_, PrP_fr p4 (f _ (by decide) (by decide) (by decide)) (f _ (by decide) (by decide) (by decide)) (f _ (by decide) (by decide) (by decide)) (f _ (by decide) (by decide) (by decide)) (f _ (by decide) (by decide) (by decide)), PrU_fr p5 (f _ (by decide) (by decide) (by decide))⟩
  · intro c' l' hc' hl'
    have a := p1 c' l' hc' hl'
    rw [f 1 (by decide) (by decide) (by decide), f4]
    split
    · omega
    · exact a
  · intro c' hc'
    have a := p2 c' hc'
    by_cases e : c' = c
    · subst e
      have b := a.2.2.2 h5
      have e50 : sOn A c' l 5 c' 0 = A 3 c' l := by
        rw [f5]
        simp
      have e51 : sOn A c' l 5 c' 1 = 1 := by
        rw [f5]
        simp
      have e52 : sOn A c' l 5 c' 2 = A 5 c' 2 := by
        rw [f5]
        simp
      rw [e50, e51, e52]
      refine ⟨a.1, by omega, fun w => absurd w hf, fun w => ?_⟩
      unfold PQ at b ⊢
      rw [e50, e51, f3c, f4c, f 2 (by decide) (by decide) (by decide), Lv_fr (f 6 (by decide) (by decide) (by decide)) (f 7 (by decide) (by decide) (by decide)) (f 8 (by decide) (by decide) (by decide))]
      exact P1_sendOn hn b hl h3 hf
    · obtain ⟨g3, g4, g5⟩ := fne c' e
      rw [g3, g4, g5]
      exact ⟨a.1, a.2.1, a.2.2.1, fun w => PQ_fr (a.2.2.2 w) (by rw [f 2 (by decide) (by decide) (by decide)]) g3 g4 g5 (f _ (by decide) (by decide) (by decide)) (f _ (by decide) (by decide) (by decide)) (f _ (by decide) (by decide) (by decide))⟩
  · intro d hd
    have a := p3 d hd
    rw [f 6 (by decide) (by decide) (by decide), f 7 (by decide) (by decide) (by decide), f 8 (by decide) (by decide) (by decide)]
    refine ⟨a.1, a.2.1, a.2.2.1, a.2.2.2.1, fun k k1 k2 => ?_⟩
    have b := a.2.2.2.2 k k1 k2
    refine ⟨b.1, b.2.1, ?_⟩
    rw [f5]
    simp
    split
    · exact hf
    · exact b.2.2
theorem Pr_take {n sh T : Nat} {A : mm_A} (hn : n ≤ 12) (h : Pr n sh T A) {d : Nat} (hd : d < 2 * n) (hlt : A 6 d 2 < A 6 d 1) (h02 : A 6 d 0 = A 6 d 2) : Pr n sh (T + 1) (sTake sh (as A 6 d 2 (A 6 d 2 + 1)) (sr (pa3 sh) d) (ds (pa3 sh) d) (A 7 d (A 6 d 2)) (A 8 d (A 6 d 2))) ∧ sr (pa3 sh) d < n ∧ ds (pa3 sh) d < n ∧ A 7 d (A 6 d 2) < 3 ∧ A 8 d (A 6 d 2) < n ∧ A 5 (A 7 d (A 6 d 2)) 0 ≠ 99 ∧ A 2 (A 7 d (A 6 d 2)) (ds (pa3 sh) d) < n := by
  obtain ⟨p1, p2, p3, p4, p5⟩ := h
  have a := p3 d hd
  have b := a.2.2.2.2 (A 6 d 2) (by omega) hlt
  have q := (p2 _ b.1).2.2.2 b.2.2
  have hLs := Lv_some (A := A) hd (Nat.le_refl _) hlt
  have d2 : 2 ≤ d := (q.2.2.2.2.2.1 _ _ _ hLs).1
  obtain ⟨s1, s2, s3, s4, s5, s6⟩ := sd_nb (pa3_lt sh) d2 hd
  have hLd := fun c' => Lv_due (n := n) (A := A) (c' := c') hd hlt
  have qa := q.2.1 _ s2
  refine ⟨?_, s1, s2, b.1, b.2.1, b.2.2, qa.1⟩
  have hc := b.1
  have ha := b.2.1
  have h5 := b.2.2
  generalize hcc : A 7 d (A 6 d 2) = c at *
  generalize haa : A 8 d (A 6 d 2) = x at *
  have g : ∀ a, a ≠ 6 → as A 6 d 2 (A 6 d 2 + 1) a = A a := fun a z => as_f z
  have hLc := hLd c
  rw [if_pos rfl] at hLc
  have hLn : ∀ c', c' ≠ c → Lv n (as A 6 d 2 (A 6 d 2 + 1)) c' = Lv n A c' := fun c' hne => by
    rw [hLd c', if_neg hne]
  -- the lines and packets with the due number raised
  have L0 : PrL n T (as A 6 d 2 (A 6 d 2 + 1)) := by
    intro d' hd'
    have z := p3 d' hd'
    rw [g 7 (by decide), g 8 (by decide), g 5 (by decide)]
    by_cases e : d' = d
    · subst e
      simp [as_ap]
      exact ⟨by omega, by omega, by omega, z.2.2.2.1, z.2.2.2.2⟩
    · rw [as_i e]
      exact z
  have P0 : PrP n sh (as A 6 d 2 (A 6 d 2 + 1)) := by
    refine ⟨by rw [g 9 (by decide)]; exact p4.1, fun i hi => ?_⟩
    rw [g 9 (by decide)] at hi
    have z := p4.2 i hi
    unfold PkP at z ⊢
    rw [g 10 (by decide), g 7 (by decide), g 8 (by decide)]
    refine ⟨z.1, z.2.1, z.2.2.1, z.2.2.2.1, fun w => ?_, fun w => ?_⟩
    · have y := z.2.2.2.2.1 w
      simpa [as_ap] using y
    · have y := z.2.2.2.2.2 w
      rw [as_ap]
      split
      · rename_i u
        rw [u.2.1] at y
        omega
      · exact y
  have U0 : PrU n (as A 6 d 2 (A 6 d 2 + 1)) := PrU_fr p5 (g _ (by decide))
  unfold sTake
  by_cases e : A 2 c (ds (pa3 sh) d) = ds (pa3 sh) d
  · rw [g 2 (by decide), g 4 (by decide), if_pos e]
    -- it ends here: a follower
    have key : Pr n sh T (as (as (as A 6 d 2 (A 6 d 2 + 1)) 2 c (ds (pa3 sh) d) (sr (pa3 sh) d)) 3 c (ds (pa3 sh) d) x) := by
      have f : ∀ a, a ≠ 2 → a ≠ 3 → as (as (as A 6 d 2 (A 6 d 2 + 1)) 2 c (ds (pa3 sh) d) (sr (pa3 sh) d)) 3 c (ds (pa3 sh) d) x a = as A 6 d 2 (A 6 d 2 + 1) a := fun a z1 z2 => by rw [as_f z2, as_f z1]
      have f2 : as (as (as A 6 d 2 (A 6 d 2 + 1)) 2 c (ds (pa3 sh) d) (sr (pa3 sh) d)) 3 c (ds (pa3 sh) d) x 2 c = pu (A 2 c) (ds (pa3 sh) d) (sr (pa3 sh) d) := by
        rw [as_f (show 2 ≠ 3 by decide), as_pu, g 2 (by decide)]
      have f3 : as (as (as A 6 d 2 (A 6 d 2 + 1)) 2 c (ds (pa3 sh) d) (sr (pa3 sh) d)) 3 c (ds (pa3 sh) d) x 3 c = pu (A 3 c) (ds (pa3 sh) d) x := by
        rw [as_pu, as_f (show 3 ≠ 2 by decide), g 3 (by decide)]
      have f2n : ∀ c', c' ≠ c → as (as (as A 6 d 2 (A 6 d 2 + 1)) 2 c (ds (pa3 sh) d) (sr (pa3 sh) d)) 3 c (ds (pa3 sh) d) x 2 c' = A 2 c' := fun c' hne => by
        rw [as_f (show 2 ≠ 3 by decide), as_i hne, g 2 (by decide)]
      have f3n : ∀ c', c' ≠ c → as (as (as A 6 d 2 (A 6 d 2 + 1)) 2 c (ds (pa3 sh) d) (sr (pa3 sh) d)) 3 c (ds (pa3 sh) d) x 3 c' = A 3 c' := fun c' hne => by
        rw [as_i hne, as_f (show 3 ≠ 2 by decide), g 3 (by decide)]
      refine ⟨PrD_fr p1 ((f _ (by decide) (by decide)).trans (g _ (by decide))) ((f _ (by decide) (by decide)).trans (g _ (by decide))), ?_, PrL_fr L0 (f _ (by decide) (by decide)) (f _ (by decide) (by decide)) (f _ (by decide) (by decide)) (f _ (by decide) (by decide)), PrP_fr P0 (f _ (by decide) (by decide)) (f _ (by decide) (by decide)) (f _ (by decide) (by decide)) (f _ (by decide) (by decide)) (f _ (by decide) (by decide)), PrU_fr U0 (f _ (by decide) (by decide))⟩
      intro c' hc'
      have z := p2 c' hc'
      rw [f 5 (by decide) (by decide), f 4 (by decide) (by decide), g 5 (by decide), g 4 (by decide)]
      by_cases e2 : c' = c
      · subst e2
        refine ⟨z.1, z.2.1, fun w => absurd w h5, fun w => ?_⟩
        unfold PQ
        rw [f2, f3, f 5 (by decide) (by decide), f 4 (by decide) (by decide), g 5 (by decide), g 4 (by decide), Lv_fr (A := as A 6 d 2 (A 6 d 2 + 1)) (f 6 (by decide) (by decide)) (f 7 (by decide) (by decide)) (f 8 (by decide) (by decide)), hLc]
        exact P1_sink hn (pa3_lt sh) q hLs e
      · rw [f3n c' e2]
        refine ⟨z.1, z.2.1, z.2.2.1, fun w => ?_⟩
        have y := z.2.2.2 w
        unfold PQ at y ⊢
        rw [f2n c' e2, f3n c' e2, f 5 (by decide) (by decide), f 4 (by decide) (by decide), g 5 (by decide), g 4 (by decide), Lv_fr (A := as A 6 d 2 (A 6 d 2 + 1)) (f 6 (by decide) (by decide)) (f 7 (by decide) (by decide)) (f 8 (by decide) (by decide)), hLn c' e2]
        exact y
    split
    · rename_i e4
      refine Pr_up (Pr_on hn key hc s2 ?_ ?_ ?_) (Nat.le_succ T)
      · simpa [as_ap] using h5
      · simp [as_ap]
        omega
      · simp [as_ap]
        omega
    · exact Pr_up key (Nat.le_succ T)
  · rw [g 2 (by decide), if_neg e]
    have qn : nb (pa3 sh) (ds (pa3 sh) d) (A 2 c (ds (pa3 sh) d)) := by
      rcases qa.2.1 with z | z
      · exact absurd z e
      · exact z
    obtain ⟨w1, w2, w3, w4, w5⟩ := dr_up (pa3_lt sh) s2 qa.1 qn
    have f : ∀ a, a ≠ 2 → as (as A 6 d 2 (A 6 d 2 + 1)) 2 c (ds (pa3 sh) d) (sr (pa3 sh) d) a = as A 6 d 2 (A 6 d 2 + 1) a := fun a z1 => as_f z1
    have f2 : as (as A 6 d 2 (A 6 d 2 + 1)) 2 c (ds (pa3 sh) d) (sr (pa3 sh) d) 2 c = pu (A 2 c) (ds (pa3 sh) d) (sr (pa3 sh) d) := by
      rw [as_pu, g 2 (by decide)]
    have f2n : ∀ c', c' ≠ c → as (as A 6 d 2 (A 6 d 2 + 1)) 2 c (ds (pa3 sh) d) (sr (pa3 sh) d) 2 c' = A 2 c' := fun c' hne => by
      rw [as_i hne, g 2 (by decide)]
    have f61 : as (as A 6 d 2 (A 6 d 2 + 1)) 2 c (ds (pa3 sh) d) (sr (pa3 sh) d) 6 (dr (pa3 sh) (ds (pa3 sh) d) (A 2 c (ds (pa3 sh) d))) 1 = A 6 (dr (pa3 sh) (ds (pa3 sh) d) (A 2 c (ds (pa3 sh) d))) 1 := by
      rw [f 6 (by decide), as_ap, if_neg (by omega)]
    refine Pr_send (A' := A) s2 qa.1 qn (Pr_app (PrD_fr p1 ((f _ (by decide)).trans (g _ (by decide))) ((f _ (by decide)).trans (g _ (by decide)))) ?_ (PrL_fr L0 (f _ (by decide)) (f _ (by decide)) (f _ (by decide)) (f _ (by decide))) (PrP_fr P0 (f _ (by decide)) (f _ (by decide)) (f _ (by decide)) (f _ (by decide)) (f _ (by decide))) (PrU_fr U0 (f _ (by decide))) w4 hc ha (by rw [f 5 (by decide), g 5 (by decide)]; exact h5) ?_)
    · intro c' hc'
      have z := p2 c' hc'
      rw [f 5 (by decide), f 4 (by decide), f 3 (by decide), g 5 (by decide), g 4 (by decide), g 3 (by decide)]
      refine ⟨z.1, z.2.1, z.2.2.1, fun e2 w => ?_⟩
      have y := z.2.2.2 w
      unfold PQ at y ⊢
      rw [f2n c' e2, f 3 (by decide), f 5 (by decide), f 4 (by decide), g 3 (by decide), g 5 (by decide), g 4 (by decide), Lv_fr (A := as A 6 d 2 (A 6 d 2 + 1)) (f 6 (by decide)) (f 7 (by decide)) (f 8 (by decide)), hLn c' e2]
      exact y
    · rw [f61, f2, f 3 (by decide), f 5 (by decide), f 4 (by decide), g 3 (by decide), g 5 (by decide), g 4 (by decide), Lv_fr (A := as A 6 d 2 (A 6 d 2 + 1)) (f 6 (by decide)) (f 7 (by decide)) (f 8 (by decide)), hLc]
      exact P1_fwd (pa3_lt sh) q hLs e (Lv_none (Nat.le_refl _))

theorem sd_half {pa : Nat → Nat} {d e : Nat} (h : d / 2 = e / 2) : (sr pa d = sr pa e ∧ ds pa d = ds pa e) ∨ (sr pa d = ds pa e ∧ ds pa d = sr pa e) := by
  unfold sr ds
  by_cases c1 : d % 2 = 0 <;> by_cases c2 : e % 2 = 0 <;> simp [c1, c2, h]
theorem pu2_some {L : Nat → Nat → Option Nat} {d k x e j y : Nat} (h : pu2 L d k (some x) e j = some y) : (e = d ∧ j = k ∧ x = y) ∨ (¬ (e = d ∧ j = k) ∧ L e j = some y) := by
  unfold pu2 at h
  by_cases c : e = d ∧ j = k
  · rw [if_pos c] at h
    exact Or.inl ⟨c.1, c.2, Option.some.inj h⟩
  · rw [if_neg c] at h
    exact Or.inr ⟨c, h⟩
theorem pu2_none {L : Nat → Nat → Option Nat} {d k e j y : Nat} (h : pu2 L d k none e j = some y) : ¬ (e = d ∧ j = k) ∧ L e j = some y := by
  unfold pu2 at h
  by_cases c : e = d ∧ j = k
  · rw [if_pos c] at h
    cases h
  · rw [if_neg c] at h
    exact ⟨c, h⟩
theorem pu_e {α : Type} (f : Nat → α) (a : Nat) (x : α) : pu f a x a = x := by simp [pu]
theorem pu_n {α : Type} {f : Nat → α} {a b : Nat} {x : α} (h : b ≠ a) : pu f a x b = f b := by simp [pu, h]
section PST
variable {n : Nat} {pa ar fo st : Nat → Nat} {wh iv : Nat} {L : Nat → Nat → Option Nat}
theorem P1_open (hn : n ≤ 12) (hpa : ∀ u, 1 ≤ u → pa u < u) (h : P1 n pa ar fo st wh iv L) {l k : Nat} (hl : l < n) (h0 : st l = 0) (hk : L (dr pa l (ar l)) k = none) : P1 n pa (pu ar l l) fo (pu st l 1) wh iv (pu2 L (dr pa l (ar l)) k (some l)) := by
  obtain ⟨⟨h1, h1b⟩, h2, h3, h4, h5, h6, h7, h8, h9, h10, h11, h12, h13⟩ := h
  have q1 := (h3 l hl).2.1 h0
  have q2 := h2 l hl
  have q3 : nb pa l (ar l) := by
    rcases q2.2.1 with e | e
    · exact absurd e q1.2
    · exact e
  obtain ⟨d1, d2, d3, d4, d5⟩ := dr_up hpa hl q2.1 q3
  generalize hd : dr pa l (ar l) = d at *
  have hE : ∀ e k x, L e k = some x → sr pa e < n ∧ ds pa e < n ∧ sr pa e ≠ ds pa e := fun e k x hx => by
    have := h6 e k x hx
    have := sd_nb hpa this.1 this.2.1
    exact ⟨this.1, this.2.1, this.2.2.2.2.1⟩
  have hH : ∀ e, d / 2 = e / 2 → (sr pa d = sr pa e ∧ ds pa d = ds pa e) ∨ (sr pa d = ds pa e ∧ ds pa d = sr pa e) := fun e he => sd_half he
  refine ⟨⟨h1, h1b⟩, ?_, ?_, ?_, ?_, ?_, ?_, h8, ?_, ?_, ?_, ?_, ?_⟩
  · intro m hm
    have := h2 m hm
    grind [pu]
  · intro m hm
    have a := h3 m hm
    by_cases c : m = l
    · rw [c, pu_e, pu_e]
      exact ⟨fun _ => q1.1, fun q => absurd q (by decide), fun q => absurd q (by decide)⟩
    · rw [pu_n c, pu_n c]
      exact a
  · grind [pu]
  · grind [pu]
  · intro e j y hy
    rcases pu2_some hy with ⟨rfl, rfl, rfl⟩ | ⟨-, hy⟩
    · refine ⟨d3, d4, hl, by rw [pu_e]; omega, fun e => ?_⟩
      rw [← e] at h5
      exact h5 h0
    · have := h6 e j y hy
      refine ⟨this.1, this.2.1, this.2.2.1, ?_, this.2.2.2.2⟩
      unfold pu
      split <;> omega
  · intro m hm hf
    have := h7 m hm hf
    refine ⟨?_, this.2⟩
    unfold pu
    split <;> omega
  · intro e j y m hy hm
    rcases pu2_some hy with ⟨-, -, rfl⟩ | ⟨-, hy⟩
    · intro e
      have := h7 m hm (by omega)
      rw [e] at this
      exact this.1 h0
    · exact h9 e j y m hy hm
  · intro e j e' j' y hy hy'
    rcases pu2_some hy with ⟨rfl, rfl, rfl⟩ | ⟨-, hz⟩ <;> rcases pu2_some hy' with ⟨rfl, rfl, q⟩ | ⟨-, hz'⟩
    · exact ⟨rfl, rfl⟩
    · exact absurd h0 (h6 _ _ _ hz').2.2.2.1
    · rw [← q] at hz
      exact absurd h0 (h6 _ _ _ hz).2.2.2.1
    · exact h10 e j e' j' y hz hz'
  · intro u hu
    by_cases c : u = l
    · rw [c, pu_e, pu_e]
      exact fun q => q
    · rw [pu_n c]
      by_cases c2 : ar u = l
      · rw [c2, pu_e]
        exact fun q => absurd q.symm c
      · rw [pu_n c2]
        exact h11 u hu
  · intro e j y hy
    rcases pu2_some hy with ⟨rfl, rfl, rfl⟩ | ⟨-, hy⟩
    · rw [d1, d2, pu_e, pu_n (Ne.symm d5)]
      exact ⟨d5, fun q => q1.2 (h11 l hl q)⟩
    · have a1 := h12 e j y hy
      have a2 := hE e j y hy
      refine ⟨?_, ?_⟩
      · by_cases c : sr pa e = l
        · rw [c, pu_e]
          exact fun q => a2.2.2 (c.trans q)
        · rw [pu_n c]
          exact a1.1
      · by_cases c : ds pa e = l
        · rw [c, pu_e]
          exact fun q => a2.2.2 (q.symm.trans c.symm)
        · rw [pu_n c]
          exact a1.2
  · intro e j y e' j' y' hy hy' hh
    have key : ∀ e j y, L e j = some y → d / 2 = e / 2 → False := fun e j y hy hq => by
      have a1 := h12 e j y hy
      rcases hH e hq with ⟨c1, c2⟩ | ⟨c1, c2⟩
      · exact a1.1 (by rw [← c1, ← c2, d1, d2])
      · exact a1.2 (by rw [← c1, ← c2, d1, d2])
    rcases pu2_some hy with ⟨rfl, rfl, rfl⟩ | ⟨-, hz⟩ <;> rcases pu2_some hy' with ⟨rfl, rfl, q⟩ | ⟨-, hz'⟩
    · exact ⟨rfl, rfl⟩
    · exact (key _ _ _ hz' hh).elim
    · exact (key _ _ _ hz hh.symm).elim
    · exact h13 e j y e' j' y' hz hz' hh
theorem P1_fwd (hpa : ∀ u, 1 ≤ u → pa u < u) (h : P1 n pa ar fo st wh iv L) {d k x j : Nat} (hL : L d k = some x) (hne : ar (ds pa d) ≠ ds pa d) (hj : L (dr pa (ds pa d) (ar (ds pa d))) j = none) : P1 n pa (pu ar (ds pa d) (sr pa d)) fo st wh iv (pu2 (pu2 L d k none) (dr pa (ds pa d) (ar (ds pa d))) j (some x)) := by
  obtain ⟨⟨h1, h1b⟩, h2, h3, h4, h5, h6, h7, h8, h9, h10, h11, h12, h13⟩ := h
  have q0 := h6 d k x hL
  obtain ⟨s1, s2, s3, s4, s5, s6⟩ := sd_nb hpa q0.1 q0.2.1
  have q2 := h2 _ s2
  have q3 : nb pa (ds pa d) (ar (ds pa d)) := by
    rcases q2.2.1 with e | e
    · exact absurd e hne
    · exact e
  obtain ⟨d1, d2, d3, d4, d5⟩ := dr_up hpa s2 q2.1 q3
  have q4 := h12 d k x hL
  generalize hd' : dr pa (ds pa d) (ar (ds pa d)) = e0 at *
  generalize hu : sr pa d = u at *
  generalize hv : ds pa d = v at *
  have hE : ∀ e k x, L e k = some x → sr pa e ≠ ds pa e := fun e k x hx => by
    have := h6 e k x hx
    have := sd_nb hpa this.1 this.2.1
    exact this.2.2.2.2.1
  have hS : ∀ e' j' x', L e' j' = some x' → ((sr pa e' = u ∧ ds pa e' = v) ∨ (sr pa e' = v ∧ ds pa e' = u)) → e' = d ∧ j' = k := fun e' j' x' hx hh => by
    have c := h6 e' j' x' hx
    have c2 := sd_same (n := n) hpa c.1 q0.1 (by rw [hu, hv]; exact hh)
    exact h13 e' j' x' d k x hx hL c2
  have hvu : v ≠ u := fun q => s5 q.symm
  refine ⟨⟨h1, h1b⟩, ?_, ?_, h4, h5, ?_, h7, h8, ?_, ?_, ?_, ?_, ?_⟩
  · intro m hm
    have a := h2 m hm
    by_cases c : m = v
    · rw [c] at a ⊢
      rw [pu_e]
      exact ⟨s1, Or.inr s4, a.2.2⟩
    · rw [pu_n c]
      exact a
  · intro m hm
    have a := h3 m hm
    by_cases c : m = v
    · rw [c] at a ⊢
      rw [pu_e]
      exact ⟨fun q => absurd q.symm hvu, fun q => ⟨(a.2.1 q).1, fun q => hvu q.symm⟩, a.2.2⟩
    · rw [pu_n c]
      exact a
  · intro e j' y hy
    rcases pu2_some hy with ⟨rfl, rfl, rfl⟩ | ⟨-, hy⟩
    · exact ⟨d3, d4, q0.2.2⟩
    · exact h6 _ _ _ (pu2_none hy).2
  · intro e j' y m hy hm
    rcases pu2_some hy with ⟨rfl, rfl, rfl⟩ | ⟨-, hy⟩
    · exact h9 d k _ m hL hm
    · exact h9 _ _ _ m (pu2_none hy).2 hm
  · intro e j1 e' j2 y hy hy'
    rcases pu2_some hy with ⟨rfl, rfl, rfl⟩ | ⟨-, hz⟩ <;> rcases pu2_some hy' with ⟨rfl, rfl, q⟩ | ⟨-, hz'⟩
    · exact ⟨rfl, rfl⟩
    · have z := pu2_none hz'
      exact absurd (h10 _ _ _ _ _ z.2 hL) z.1
    · have z := pu2_none hz
      rw [← q] at z
      exact absurd (h10 _ _ _ _ _ z.2 hL) z.1
    · exact h10 _ _ _ _ _ (pu2_none hz).2 (pu2_none hz').2
  · intro w hw
    by_cases c : w = v
    · rw [c, pu_e, pu_n s5]
      exact fun q => absurd q q4.1
    · rw [pu_n c]
      by_cases c2 : ar w = v
      · rw [c2, pu_e]
        intro q
        rw [← q] at c2
        exact absurd c2 q4.1
      · rw [pu_n c2]
        exact h11 w hw
  · intro e j' y hy
    rcases pu2_some hy with ⟨rfl, rfl, rfl⟩ | ⟨-, hy⟩
    · rw [d1, d2, pu_e]
      refine ⟨fun q => ?_, ?_⟩
      · rw [← q] at q4
        exact q4.2 rfl
      · rw [pu_n (fun q => hne q)]
        exact fun q => hne (h11 v s2 q)
    · have z := pu2_none hy
      have a1 := h12 e j' y z.2
      refine ⟨?_, ?_⟩
      · by_cases c : sr pa e = v
        · rw [c, pu_e]
          exact fun q => z.1 (hS e j' y z.2 (Or.inr ⟨c, q.symm⟩))
        · rw [pu_n c]
          exact a1.1
      · by_cases c : ds pa e = v
        · rw [c, pu_e]
          exact fun q => z.1 (hS e j' y z.2 (Or.inl ⟨q.symm, c⟩))
        · rw [pu_n c]
          exact a1.2
  · intro e j1 y e' j2 y' hy hy' hh
    have key : ∀ e j y, L e j = some y → e0 / 2 = e / 2 → False := fun e j y hy hq => by
      have a1 := h12 e j y hy
      rcases sd_half (pa := pa) hq with ⟨c1, c2⟩ | ⟨c1, c2⟩
      · exact a1.1 (by rw [← c1, ← c2, d1, d2])
      · exact a1.2 (by rw [← c1, ← c2, d1, d2])
    rcases pu2_some hy with ⟨rfl, rfl, rfl⟩ | ⟨-, hz⟩ <;> rcases pu2_some hy' with ⟨rfl, rfl, q⟩ | ⟨-, hz'⟩
    · exact ⟨rfl, rfl⟩
    · exact (key _ _ _ (pu2_none hz').2 hh).elim
    · exact (key _ _ _ (pu2_none hz).2 hh.symm).elim
    · exact h13 _ _ _ _ _ _ (pu2_none hz).2 (pu2_none hz').2 hh
theorem P1_sink (hn : n ≤ 12) (hpa : ∀ u, 1 ≤ u → pa u < u) (h : P1 n pa ar fo st wh iv L) {d k x : Nat} (hL : L d k = some x) (he : ar (ds pa d) = ds pa d) : P1 n pa (pu ar (ds pa d) (sr pa d)) (pu fo (ds pa d) x) st wh iv (pu2 L d k none) := by
  obtain ⟨⟨h1, h1b⟩, h2, h3, h4, h5, h6, h7, h8, h9, h10, h11, h12, h13⟩ := h
  have q0 := h6 d k x hL
  obtain ⟨s1, s2, s3, s4, s5, s6⟩ := sd_nb hpa q0.1 q0.2.1
  have q2 := h2 _ s2
  have q4 := h12 d k x hL
  generalize hu : sr pa d = u at *
  generalize hv : ds pa d = v at *
  have hS : ∀ e' j' x', L e' j' = some x' → ((sr pa e' = u ∧ ds pa e' = v) ∨ (sr pa e' = v ∧ ds pa e' = u)) → e' = d ∧ j' = k := fun e' j' x' hx hh => by
    have c := h6 e' j' x' hx
    have c2 := sd_same (n := n) hpa c.1 q0.1 (by rw [hu, hv]; exact hh)
    exact h13 e' j' x' d k x hx hL c2
  have hvu : v ≠ u := fun q => s5 q.symm
  have hf := (h3 v s2).1 he
  refine ⟨⟨h1, h1b⟩, ?_, ?_, h4, h5, ?_, ?_, ?_, ?_, ?_, ?_, ?_, ?_⟩
  · intro m hm
    have a := h2 m hm
    by_cases c : m = v
    · rw [c] at a ⊢
      rw [pu_e, pu_e]
      exact ⟨s1, Or.inr s4, Or.inr q0.2.2.1, a.2.2.2⟩
    · rw [pu_n c, pu_n c]
      exact a
  · intro m hm
    have a := h3 m hm
    by_cases c : m = v
    · rw [c] at a ⊢
      rw [pu_e, pu_e]
      exact ⟨fun q => absurd q.symm hvu, fun q => absurd he (a.2.1 q).2, a.2.2⟩
    · rw [pu_n c, pu_n c]
      exact a
  · intro e j' y hy
    exact h6 _ _ _ (pu2_none hy).2
  · intro m hm
    by_cases c : m = v
    · rw [c, pu_e]
      exact fun _ => q0.2.2.2
    · rw [pu_n c]
      exact h7 m hm
  · intro a b ha hb
    by_cases c : a = v <;> by_cases c2 : b = v
    · exact fun _ _ => c.trans c2.symm
    · rw [c, pu_e, pu_n c2]
      exact fun q _ => absurd q.symm (h9 d k x b hL hb)
    · rw [c2, pu_e, pu_n c]
      exact fun q _ => absurd q (h9 d k x a hL ha)
    · rw [pu_n c, pu_n c2]
      exact h8 a b ha hb
  · intro e j' y m hy hm
    have z := pu2_none hy
    by_cases c : m = v
    · rw [c, pu_e]
      intro q
      rw [← q] at z
      exact z.1 (h10 _ _ _ _ _ z.2 hL)
    · rw [pu_n c]
      exact h9 e j' y m z.2 hm
  · intro e j1 e' j2 y hy hy'
    exact h10 _ _ _ _ _ (pu2_none hy).2 (pu2_none hy').2
  · intro w hw
    by_cases c : w = v
    · rw [c, pu_e, pu_n s5]
      exact fun q => absurd q q4.1
    · rw [pu_n c]
      by_cases c2 : ar w = v
      · rw [c2, pu_e]
        intro q
        rw [← q] at c2
        exact absurd c2 q4.1
      · rw [pu_n c2]
        exact h11 w hw
  · intro e j' y hy
    have z := pu2_none hy
    have a1 := h12 e j' y z.2
    refine ⟨?_, ?_⟩
    · by_cases c : sr pa e = v
      · rw [c, pu_e]
        exact fun q => z.1 (hS e j' y z.2 (Or.inr ⟨c, q.symm⟩))
      · rw [pu_n c]
        exact a1.1
    · by_cases c : ds pa e = v
      · rw [c, pu_e]
        exact fun q => z.1 (hS e j' y z.2 (Or.inl ⟨q.symm, c⟩))
      · rw [pu_n c]
        exact a1.2
  · intro e j1 y e' j2 y' hy hy' hh
    exact h13 _ _ _ _ _ _ (pu2_none hy).2 (pu2_none hy').2 hh
theorem P1_sendOn (hn : n ≤ 12) (h : P1 n pa ar fo st wh iv L) {l : Nat} (hl : l < n) (h3 : 3 ≤ st l) (hf : fo l ≠ 99) : P1 n pa ar (pu fo l 99) (pu st l 0) (fo l) 1 L := by
  obtain ⟨⟨h1, h1b⟩, h2, h3', h4, h5, h6, h7, h8, h9, h10, h11, h12, h13⟩ := h
  have a1 := h2 l hl
  have a2 := h3' l hl
  have a3 := h7 l hl hf
  have hwl : wh = l := (a2.2.2 (by omega)).1
  have hfl : fo l ≠ l := fun q => a3.2 (q.trans hwl.symm)
  have hfn : fo l < n := by
    rcases a1.2.2.1 with q | q
    · exact absurd q hf
    · exact q
  have hs1 : st (fo l) = 1 := by
    have b1 := (h3' _ hfn).2.2
    have b2 := a3.1
    by_cases c : 2 ≤ st (fo l)
    · exact absurd (b1 c).1.symm a3.2
    · omega
  refine ⟨⟨by omega, by omega⟩, ?_, ?_, ?_, ?_, ?_, ?_, ?_, ?_, h10, h11, h12, h13⟩
  · intro m hm
    have a := h2 m hm
    by_cases c : m = l
    · rw [c] at a ⊢
      rw [pu_e, pu_e]
      exact ⟨a.1, a.2.1, Or.inl rfl, by decide⟩
    · rw [pu_n c, pu_n c]
      exact a
  · intro m hm
    have a := h3' m hm
    by_cases c : m = l
    · rw [c] at a ⊢
      rw [pu_e, pu_e]
      exact ⟨fun _ => rfl, fun _ => ⟨rfl, fun q => hf (a.1 q)⟩, fun q => absurd q (by decide)⟩
    · rw [pu_n c, pu_n c]
      exact ⟨a.1, a.2.1, fun q => absurd ((a.2.2 q).1.symm.trans hwl) c⟩
  · intro _
    rw [pu_n hfl]
    exact hs1
  · rw [pu_n hfl]
    exact a3.1
  · intro d k x hx
    have a := h6 d k x hx
    have hxl : x ≠ l := fun q => a.2.2.2.2 (q.trans hwl.symm)
    rw [pu_n hxl]
    exact ⟨a.1, a.2.1, a.2.2.1, a.2.2.2.1, fun q => h9 d k x l hx hl q.symm⟩
  · intro m hm
    by_cases c : m = l
    · rw [c, pu_e]
      exact fun q => absurd rfl q
    · rw [pu_n c]
      intro q
      have a := h7 m hm q
      rw [pu_n (fun e => a.2 (e.trans hwl.symm))]
      exact ⟨a.1, fun e => c (h8 m l hm hl e q)⟩
  · intro a b ha hb
    by_cases c : a = l
    · rw [c, pu_e]
      exact fun _ q => absurd rfl q
    · rw [pu_n c]
      by_cases c2 : b = l
      · rw [c2, pu_e]
        exact fun q1 q2 => absurd q1 q2
      · rw [pu_n c2]
        exact h8 a b ha hb
  · intro d k x m hx hm
    by_cases c : m = l
    · rw [c, pu_e]
      have := (h6 d k x hx).2.2.1
      omega
    · rw [pu_n c]
      exact h9 d k x m hx hm
theorem P1_van (h : P1 n pa ar fo st wh iv L) (hv : iv = 1) : P1 n pa ar fo (pu st wh 2) wh 0 L := by
  obtain ⟨⟨h1, h1b⟩, h2, h3', h4, h5, h6, h7, h8, h9, h10, h11, h12, h13⟩ := h
  refine ⟨⟨by omega, by omega⟩, ?_, ?_, ?_, ?_, ?_, ?_, h8, h9, h10, h11, h12, h13⟩
  · intro m hm
    have := h2 m hm
    grind [pu]
  · intro m hm
    have := h3' m hm
    grind [pu]
  · grind [pu]
  · grind [pu]
  · grind [pu]
  · grind [pu]
theorem P1_state (h : P1 n pa ar fo st wh iv L) {l s : Nat} (hl : l < n) (h2' : 2 ≤ st l) (hs : 2 ≤ s) (hs4 : s ≤ 4) : P1 n pa ar fo (pu st l s) wh iv L := by
  obtain ⟨⟨h1, h1b⟩, h2, h3', h4, h5, h6, h7, h8, h9, h10, h11, h12, h13⟩ := h
  have := h3' l hl
  refine ⟨⟨by omega, by omega⟩, ?_, ?_, ?_, ?_, ?_, ?_, h8, h9, h10, h11, h12, h13⟩
  · intro m hm
    have := h2 m hm
    grind [pu]
  · intro m hm
    have := h3' m hm
    grind [pu]
  · grind [pu]
  · grind [pu]
  · grind [pu]
  · grind [pu]
end PST

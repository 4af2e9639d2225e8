/-! what always holds is kept by the steps -/
def PkV (n sh : Nat) (A : mm_A) (kd fr to nu cp ak : Nat) : Prop := kd ≤ 1 ∧ fr < n ∧ to < n ∧ nb (pa3 sh) fr to ∧
  (kd = 0 → nu ≤ A 6 (dr (pa3 sh) fr to) 0 ∧ (nu = A 6 (dr (pa3 sh) fr to) 0 → A 6 (dr (pa3 sh) fr to) 0 < A 6 (dr (pa3 sh) fr to) 1 ∧ cp = A 7 (dr (pa3 sh) fr to) nu ∧ ak = A 8 (dr (pa3 sh) fr to) nu)) ∧
  (kd = 1 → nu < A 6 (dr (pa3 sh) to fr) 2)
theorem PkV_fr {n sh : Nat} {A A' : mm_A} {kd fr to nu cp ak : Nat} (h : PkV n sh A kd fr to nu cp ak) (a6 : A' 6 = A 6) (a7 : A' 7 = A 7) (a8 : A' 8 = A 8) : PkV n sh A' kd fr to nu cp ak := by
  unfold PkV
  rw [a6, a7, a8]
  exact h
theorem Lv_fr {n : Nat} {A A' : mm_A} {c : Nat} (a6 : A' 6 = A 6) (a7 : A' 7 = A 7) (a8 : A' 8 = A 8) : Lv n A' c = Lv n A c := by
  unfold Lv
  rw [a6, a7, a8]
theorem PQ_fr {n sh : Nat} {A A' : mm_A} {c : Nat} (h : PQ n sh A c) (a2 : A' 2 c = A 2 c) (a3 : A' 3 c = A 3 c) (a4 : A' 4 c = A 4 c) (a5 : A' 5 c = A 5 c) (a6 : A' 6 = A 6) (a7 : A' 7 = A 7) (a8 : A' 8 = A 8) : PQ n sh A' c := by
  unfold PQ
  rw [a2, a3, a4, a5, Lv_fr a6 a7 a8]
  exact h
theorem PrD_fr {n : Nat} {A A' : mm_A} (h : PrD n A) (a1 : A' 1 = A 1) (a4 : A' 4 = A 4) : PrD n A' := by
  unfold PrD
  rw [a1, a4]
  exact h
theorem PrC_fr {n sh : Nat} {A A' : mm_A} (h : PrC n sh A) (a2 : A' 2 = A 2) (a3 : A' 3 = A 3) (a4 : A' 4 = A 4) (a5 : A' 5 = A 5) (a6 : A' 6 = A 6) (a7 : A' 7 = A 7) (a8 : A' 8 = A 8) : PrC n sh A' := by
  intro c hc
  have a := h c hc
  rw [a5, a4, a3]
  exact ⟨a.1, a.2.1, a.2.2.1, fun q => PQ_fr (a.2.2.2 q) (by rw [a2]) (by rw [a3]) (by rw [a4]) (by rw [a5]) a6 a7 a8⟩
theorem PrL_fr {n T : Nat} {A A' : mm_A} (h : PrL n T A) (a5 : A' 5 = A 5) (a6 : A' 6 = A 6) (a7 : A' 7 = A 7) (a8 : A' 8 = A 8) : PrL n T A' := by
  unfold PrL
  rw [a5, a6, a7, a8]
  exact h
theorem PrP_fr {n sh : Nat} {A A' : mm_A} (h : PrP n sh A) (a6 : A' 6 = A 6) (a7 : A' 7 = A 7) (a8 : A' 8 = A 8) (a9 : A' 9 = A 9) (a10 : A' 10 = A 10) : PrP n sh A' := by
  unfold PrP PkP
  rw [a6, a7, a8, a9, a10]
  exact h
theorem PrU_fr {n : Nat} {A A' : mm_A} (h : PrU n A) (a11 : A' 11 = A 11) : PrU n A' := by
  unfold PrU
  rw [a11]
  exact h
theorem PrL_up {n T T' : Nat} {A : mm_A} (h : PrL n T A) (hT : T ≤ T') : PrL n T' A := fun d hd => by
  have a := h d hd
  exact ⟨a.1, a.2.1, a.2.2.1, by omega, a.2.2.2.2⟩
theorem Pr_up {n sh T T' : Nat} {A : mm_A} (h : Pr n sh T A) (hT : T ≤ T') : Pr n sh T' A := ⟨h.1, h.2.1, PrL_up h.2.2.1 hT, h.2.2.2⟩
theorem sPut_f {A : mm_A} {kd fr to nu cp ak a : Nat} (h9 : a ≠ 9) (h10 : a ≠ 10) : sPut A kd fr to nu cp ak a = A a := by
  unfold sPut
  split
  · rfl
  · rw [as_f h9, as_f h10, as_f h10, as_f h10, as_f h10, as_f h10, as_f h10]
theorem Pr_put {n sh T : Nat} {A : mm_A} (h : Pr n sh T A) {kd fr to nu cp ak : Nat} (hv : PkV n sh A kd fr to nu cp ak) : Pr n sh T (sPut A kd fr to nu cp ak) := by
  obtain ⟨h1, h2, h3, h4, h5⟩ := h
  have f : ∀ a, a ≠ 9 → a ≠ 10 → sPut A kd fr to nu cp ak a = A a := fun a q w => sPut_f q w
  refine ⟨PrD_fr h1 (f _ (by decide) (by decide)) (f _ (by decide) (by decide)), PrC_fr h2 (f _ (by decide) (by decide)) (f _ (by decide) (by decide)) (f _ (by decide) (by decide)) (f _ (by decide) (by decide)) (f _ (by decide) (by decide)) (f _ (by decide) (by decide)) (f _ (by decide) (by decide)), PrL_fr h3 (f _ (by decide) (by decide)) (f _ (by decide) (by decide)) (f _ (by decide) (by decide)) (f _ (by decide) (by decide)), ?_, PrU_fr h5 (f _ (by decide) (by decide))⟩
  by_cases c : A 9 0 0 = 40
  · have e : sPut A kd fr to nu cp ak = A := by
      unfold sPut
      rw [if_pos c]
    rw [e]
    exact h4
  · have g9 : sPut A kd fr to nu cp ak 9 0 0 = A 9 0 0 + 1 := by
      unfold sPut
      rw [if_neg c, as_e]
    have hv' := PkV_fr hv (f 6 (by decide) (by decide)) (f 7 (by decide) (by decide)) (f 8 (by decide) (by decide))
    have g10 : ∀ i, i ≠ A 9 0 0 → sPut A kd fr to nu cp ak 10 i = A 10 i := fun i hi => by
      unfold sPut
      rw [if_neg c, as_f (by decide), as_i hi, as_i hi, as_i hi, as_i hi, as_i hi, as_i hi]
    refine ⟨by rw [g9]; have := h4.1; omega, fun i hi => ?_⟩
    rw [g9] at hi
    by_cases e : i = A 9 0 0
    · subst e
      have q : ∀ w, sPut A kd fr to nu cp ak 10 (A 9 0 0) w = if w = 5 then ak else if w = 4 then cp else if w = 3 then nu else if w = 2 then to else if w = 1 then fr else if w = 0 then kd else A 10 (A 9 0 0) w := fun w => by
        unfold sPut
        rw [if_neg c]
        simp [as_ap]
      have q0 := q 0
      have q1 := q 1
      have q2 := q 2
      have q3 := q 3
      have q4 := q 4
      have q5 := q 5
      simp at q0 q1 q2 q3 q4 q5
      show PkV n sh _ _ _ _ _ _ _
      rw [q0, q1, q2, q3, q4, q5]
      exact hv'
    · have a : PkV n sh A _ _ _ _ _ _ := h4.2 i (by omega)
      show PkV n sh _ _ _ _ _ _ _
      rw [g10 i e]
      exact PkV_fr a (f 6 (by decide) (by decide)) (f 7 (by decide) (by decide)) (f 8 (by decide) (by decide))
theorem Pr_PF {n sh T : Nat} {A : mm_A} (h : Pr n sh T A) {fr to : Nat} (hf : fr < n) (ht : to < n) (hnb : nb (pa3 sh) fr to) (hlt : A 6 (dr (pa3 sh) fr to) 0 < A 6 (dr (pa3 sh) fr to) 1) : Pr n sh T (sPF A (dr (pa3 sh) fr to) fr to) :=
  Pr_put h ⟨by omega, hf, ht, hnb, fun _ => ⟨Nat.le_refl _, fun _ => ⟨hlt, rfl, rfl⟩⟩, fun q => by omega⟩
theorem Pr_rem {n sh T : Nat} {A : mm_A} (h : Pr n sh T A) {i : Nat} (hi : i < A 9 0 0) : Pr n sh T (sRem A i) := by
  obtain ⟨h1, h2, h3, h4, h5⟩ := h
  have f : ∀ a : Nat, a ≠ 9 → a ≠ 10 → sRem A i a = A a := fun a ha hb => by
    unfold sRem
    rw [as_f ha]
    funext b w
    simp [hb]
  have f10 : ∀ b, sRem A i 10 b = if i ≤ b then A 10 (b + 1) else A 10 b := fun b => by
    funext w
    unfold sRem
    rw [as_f (by decide)]
    by_cases e : i ≤ b <;> simp [e]
  have f9 : sRem A i 9 0 0 = A 9 0 0 - 1 := by
    unfold sRem
    rw [as_e]
  refine ⟨PrD_fr h1 (f _ (by decide) (by decide)) (f _ (by decide) (by decide)), PrC_fr h2 (f _ (by decide) (by decide)) (f _ (by decide) (by decide)) (f _ (by decide) (by decide)) (f _ (by decide) (by decide)) (f _ (by decide) (by decide)) (f _ (by decide) (by decide)) (f _ (by decide) (by decide)), PrL_fr h3 (f _ (by decide) (by decide)) (f _ (by decide) (by decide)) (f _ (by decide) (by decide)) (f _ (by decide) (by decide)), ?_, PrU_fr h5 (f _ (by decide) (by decide))⟩
  refine ⟨by rw [f9]; have := h4.1; omega, fun b hb => ?_⟩
  rw [f9] at hb
  show PkV n sh _ _ _ _ _ _ _
  rw [f10 b]
  by_cases e : i ≤ b
  · rw [if_pos e]
    exact PkV_fr (h4.2 (b + 1) (by omega)) (f 6 (by decide) (by decide)) (f 7 (by decide) (by decide)) (f 8 (by decide) (by decide))
  · rw [if_neg e]
    exact PkV_fr (h4.2 b (by omega)) (f 6 (by decide) (by decide)) (f 7 (by decide) (by decide)) (f 8 (by decide) (by decide))
theorem Pr_twin {n sh T : Nat} {A : mm_A} (h : Pr n sh T A) {i : Nat} (hi : i < A 9 0 0) : Pr n sh T (sTwin A i) := Pr_put h (h.2.2.2.1.2 i hi)
theorem Lv_app {n : Nat} {A : mm_A} {d c a c' : Nat} (hd : d < 2 * n) (h21 : A 6 d 2 ≤ A 6 d 1) : Lv n (sApp A d c a) c' = if c' = c then pu2 (Lv n A c') d (A 6 d 1) (some a) else Lv n A c' := by
  funext d' k
  have e6 : ∀ j, sApp A d c a 6 d' j = if d' = d ∧ j = 1 then A 6 d 1 + 1 else A 6 d' j := fun j => by
    simp [sApp, as_ap]
  have e7 : sApp A d c a 7 d' k = if d' = d ∧ k = A 6 d 1 then c else A 7 d' k := by
    simp [sApp, as_ap]
  have e8 : sApp A d c a 8 d' k = if d' = d ∧ k = A 6 d 1 then a else A 8 d' k := by
    simp [sApp, as_ap]
  unfold Lv
  rw [e6, e6, e7, e8]
  by_cases q : d' = d
  · subst q
    by_cases q2 : k = A 6 d' 1
    · subst q2
      by_cases q3 : c' = c
      · subst q3
        simp [pu2, hd, h21]
      · have q4 : ¬ c = c' := fun w => q3 w.symm
        simp [q3, q4]
    · by_cases q3 : c' = c
      · subst q3
        simp [pu2, q2]
        have : k < A 6 d' 1 + 1 ↔ k < A 6 d' 1 := by omega
        simp only [this]
      · simp [q2, q3]
        have : k < A 6 d' 1 + 1 ↔ k < A 6 d' 1 := by omega
        simp only [this]
  · by_cases q3 : c' = c
    · subst q3
      simp [pu2, q]
    · simp [q, q3]
theorem Lv_none {n : Nat} {A : mm_A} {d c k : Nat} (h : A 6 d 1 ≤ k) : Lv n A c d k = none := by
  unfold Lv
  rw [if_neg]
  omega
theorem Lv_some {n : Nat} {A : mm_A} {d k : Nat} (hd : d < 2 * n) (h1 : A 6 d 2 ≤ k) (h2 : k < A 6 d 1) : Lv n A (A 7 d k) d k = some (A 8 d k) := by
  unfold Lv
  rw [if_pos ⟨hd, h1, h2, rfl⟩]
theorem cap0 {n sh T : Nat} {A : mm_A} (h2 : PrC n sh A) (h3 : PrL n T A) {d c : Nat} (hd : d < 2 * n) (hc : c < 3) (hno : ∀ k, Lv n A c d k = none) : A 6 d 1 < A 6 d 0 + 4 := by
  have a := h3 d hd
  by_cases q : A 6 d 1 < A 6 d 0 + 4
  · exact q
  · exfalso
    have key : ∀ k, A 6 d 2 ≤ k → k < A 6 d 1 → A 7 d k < 3 ∧ A 7 d k ≠ c ∧ PQ n sh A (A 7 d k) ∧ Lv n A (A 7 d k) d k = some (A 8 d k) := fun k k1 k2 => by
      have b := a.2.2.2.2 k (by omega) k2
      have l := Lv_some hd k1 k2
      refine ⟨b.1, fun e => ?_, (h2 _ b.1).2.2.2 b.2.2, l⟩
      rw [e, hno k] at l
      cases l
    have dis : ∀ k j, A 6 d 2 ≤ k → k < A 6 d 1 → A 6 d 2 ≤ j → j < A 6 d 1 → k ≠ j → A 7 d k ≠ A 7 d j := fun k j k1 k2 j1 j2 hne e => by
      have b := key k k1 k2
      have b' := key j j1 j2
      rw [← e] at b'
      obtain ⟨-, -, -, -, -, -, -, -, -, -, -, -, h13⟩ := b.2.2.1
      exact hne (h13 _ _ _ _ _ _ b.2.2.2 b'.2.2.2 rfl).2
    have k0 := key (A 6 d 2) (by omega) (by omega)
    have k1 := key (A 6 d 2 + 1) (by omega) (by omega)
    have k2 := key (A 6 d 2 + 2) (by omega) (by omega)
    have d01 := dis (A 6 d 2) (A 6 d 2 + 1) (by omega) (by omega) (by omega) (by omega) (by omega)
    have d02 := dis (A 6 d 2) (A 6 d 2 + 2) (by omega) (by omega) (by omega) (by omega) (by omega)
    have d12 := dis (A 6 d 2 + 1) (A 6 d 2 + 2) (by omega) (by omega) (by omega) (by omega) (by omega)
    have a0 := k0.1
    have a1 := k1.1
    have a2 := k2.1
    have b0 := k0.2.1
    have b1 := k1.2.1
    have b2 := k2.2.1
    omega
theorem Pr_app {n sh T : Nat} {A : mm_A} (hD : PrD n A) {c : Nat} (hC : ∀ c', c' < 3 → A 5 c' 2 ≤ 200 ∧ A 5 c' 1 ≤ 1 ∧ (A 5 c' 0 = 99 → A 5 c' 1 = 0 ∧ ∀ l, l < n → A 4 c' l = 0 ∧ A 3 c' l = 99) ∧ (c' ≠ c → A 5 c' 0 ≠ 99 → PQ n sh A c')) (hL : PrL n T A) (hP : PrP n sh A) (hU : PrU n A) {d a : Nat} (hd : d < 2 * n) (hc : c < 3) (ha : a < n) (h5 : A 5 c 0 ≠ 99) (hPQ : P1 n (pa3 sh) (A 2 c) (A 3 c) (A 4 c) (A 5 c 0) (A 5 c 1) (pu2 (Lv n A c) d (A 6 d 1) (some a))) : Pr n sh (T + 1) (sApp A d c a) := by
  have f : ∀ q, q ≠ 6 → q ≠ 7 → q ≠ 8 → sApp A d c a q = A q := fun q q6 q7 q8 => by
    unfold sApp
    rw [as_f q6, as_f q8, as_f q7]
  have e6 : ∀ d' j, sApp A d c a 6 d' j = if d' = d ∧ j = 1 then A 6 d 1 + 1 else A 6 d' j := fun d' j => by
    simp [sApp, as_ap]
  have e7 : ∀ d' k, sApp A d c a 7 d' k = if d' = d ∧ k = A 6 d 1 then c else A 7 d' k := fun d' k => by
    simp [sApp, as_ap]
  have e8 : ∀ d' k, sApp A d c a 8 d' k = if d' = d ∧ k = A 6 d 1 then a else A 8 d' k := fun d' k => by
    simp [sApp, as_ap]
  have h21 := (hL d hd).2.2.1
  refine ⟨PrD_fr hD (f _ (by decide) (by decide) (by decide)) (f _ (by decide) (by decide) (by decide)), ?_, ?_, ?_, PrU_fr hU (f _ (by decide) (by decide) (by decide))⟩
  · intro c' hc'
    have b := hC c' hc'
    rw [f 5 (by decide) (by decide) (by decide), f 4 (by decide) (by decide) (by decide), f 3 (by decide) (by decide) (by decide)]
    refine ⟨b.1, b.2.1, b.2.2.1, fun q => ?_⟩
    unfold PQ
    rw [f 5 (by decide) (by decide) (by decide), f 4 (by decide) (by decide) (by decide), f 3 (by decide) (by decide) (by decide), f 2 (by decide) (by decide) (by decide), Lv_app hd h21]
    by_cases e : c' = c
    · subst e
      rw [if_pos rfl]
      exact hPQ
    · rw [if_neg e]
      exact b.2.2.2 e q
  · intro d' hd'
    have b := hL d' hd'
    rw [f 5 (by decide) (by decide) (by decide)]
    simp only [e6, e7, e8]
    by_cases e : d' = d
    · subst e
      simp
      refine ⟨b.1, b.2.1, by omega, by omega, fun k k1 k2 => ?_⟩
      by_cases e2 : k = A 6 d' 1
      · simp only [e2, if_true]
        exact ⟨hc, ha, h5⟩
      · simp only [e2, if_false]
        exact b.2.2.2.2 k k1 (by omega)
    · simp [e]
      exact ⟨b.1, b.2.1, b.2.2.1, by omega, b.2.2.2.2⟩
  · refine ⟨by rw [f 9 (by decide) (by decide) (by decide)]; exact hP.1, fun i hi => ?_⟩
    rw [f 9 (by decide) (by decide) (by decide)] at hi
    have b := hP.2 i hi
    unfold PkP at b ⊢
    rw [f 10 (by decide) (by decide) (by decide)]
    obtain ⟨b1, b2, b3, b4, b5, b6⟩ := b
    refine ⟨b1, b2, b3, b4, fun q => ?_, fun q => ?_⟩
    · have b5 := b5 q
      rw [e6, e6, e7, e8]
      simp only [show ¬ (0 = 1) by decide, and_false, if_false, and_true]
      refine ⟨b5.1, fun w => ?_⟩
      have b7 := b5.2 w
      have e9 : ¬ (dr (pa3 sh) (A 10 i 1) (A 10 i 2) = d ∧ A 10 i 3 = A 6 d 1) := by
        intro ⟨w1, w2⟩
        rw [w1] at b7 w
        omega
      rw [if_neg e9, if_neg e9]
      refine ⟨?_, b7.2⟩
      split
      · rename_i w1
        rw [w1] at b7 ⊢
        omega
      · exact b7.1
    · have b6 := b6 q
      rw [e6]
      simp only [show ¬ (2 = 1) by decide, and_false, if_false]
      exact b6
theorem Lv_due {n : Nat} {A : mm_A} {d c' : Nat} (hd : d < 2 * n) (h21 : A 6 d 2 < A 6 d 1) : Lv n (as A 6 d 2 (A 6 d 2 + 1)) c' = if c' = A 7 d (A 6 d 2) then pu2 (Lv n A c') d (A 6 d 2) none else Lv n A c' := by
  funext d' k
  have e1 : Lv n (as A 6 d 2 (A 6 d 2 + 1)) c' d' k = if d' < 2 * n ∧ (if d' = d then A 6 d 2 + 1 else A 6 d' 2) ≤ k ∧ k < A 6 d' 1 ∧ A 7 d' k = c' then some (A 8 d' k) else none := by
    unfold Lv
    rw [as_f (show 7 ≠ 6 by decide), as_f (show 8 ≠ 6 by decide)]
    simp [as_ap]
  have e2 : Lv n A c' d' k = if d' < 2 * n ∧ A 6 d' 2 ≤ k ∧ k < A 6 d' 1 ∧ A 7 d' k = c' then some (A 8 d' k) else none := rfl
  rw [e1]
  by_cases q0 : c' = A 7 d (A 6 d 2)
  · rw [if_pos q0]
    show _ = if d' = d ∧ k = A 6 d 2 then none else Lv n A c' d' k
    rw [e2]
    by_cases q : d' = d
    · subst q
      by_cases q2 : k = A 6 d' 2
      · rw [if_neg (by simp; omega), if_pos ⟨rfl, q2⟩]
      · have : (A 6 d' 2 + 1 ≤ k) ↔ (A 6 d' 2 ≤ k) := by omega
        simp only [if_true, this, q2, and_false, if_false]
    · simp only [q, false_and, if_false]
  · rw [if_neg q0, e2]
    by_cases q : d' = d
    · subst q
      by_cases q2 : k = A 6 d' 2
      · rw [if_neg (by simp; omega), if_neg (fun z => q0 (by rw [← z.2.2.2, q2]))]
      · have : (A 6 d' 2 + 1 ≤ k) ↔ (A 6 d' 2 ≤ k) := by omega
        simp only [if_true, this]
    · simp only [q, if_false]

/-! One copy's part of the protocol: arrows, followers, states, where the copy is, and the FINDs that no one has taken yet (L d k = some x: letter k of line d asks for x). 99: none. -/
def pu {α : Type} (f : Nat → α) (a : Nat) (x : α) : Nat → α := fun b => if b = a then x else f b
def pu2 {α : Type} (f : Nat → Nat → α) (a b : Nat) (x : α) : Nat → Nat → α := fun u v => if u = a ∧ v = b then x else f u v
def nb (pa : Nat → Nat) (u v : Nat) : Prop := (1 ≤ u ∧ pa u = v) ∨ (1 ≤ v ∧ pa v = u)
def sr (pa : Nat → Nat) (d : Nat) : Nat := if d % 2 = 0 then d / 2 else pa (d / 2)
def ds (pa : Nat → Nat) (d : Nat) : Nat := if d % 2 = 0 then pa (d / 2) else d / 2
def dr (pa : Nat → Nat) (u v : Nat) : Nat := if 1 ≤ u ∧ pa u = v then 2 * u else 2 * v + 1
def P1 (n : Nat) (pa : Nat → Nat) (ar fo st : Nat → Nat) (wh iv : Nat) (L : Nat → Nat → Option Nat) : Prop :=
  (wh < n ∧ iv ≤ 1) ∧
  (∀ l, l < n → ar l < n ∧ (ar l = l ∨ nb pa l (ar l)) ∧ (fo l = 99 ∨ fo l < n) ∧ st l ≤ 4) ∧
  (∀ l, l < n → (ar l = l → fo l = 99) ∧ (st l = 0 → fo l = 99 ∧ ar l ≠ l) ∧ (2 ≤ st l → wh = l ∧ iv = 0)) ∧
  (iv = 1 → st wh = 1) ∧ st wh ≠ 0 ∧
  (∀ d k x, L d k = some x → 2 ≤ d ∧ d < 2 * n ∧ x < n ∧ st x ≠ 0 ∧ x ≠ wh) ∧
  (∀ l, l < n → fo l ≠ 99 → st (fo l) ≠ 0 ∧ fo l ≠ wh) ∧
  (∀ l m, l < n → m < n → fo l = fo m → fo l ≠ 99 → l = m) ∧
  (∀ d k x l, L d k = some x → l < n → fo l ≠ x) ∧
  (∀ d k e j x, L d k = some x → L e j = some x → d = e ∧ k = j) ∧
  (∀ u, u < n → ar (ar u) = u → ar u = u) ∧
  (∀ d k x, L d k = some x → ar (sr pa d) ≠ ds pa d ∧ ar (ds pa d) ≠ sr pa d) ∧
  (∀ d k x e j y, L d k = some x → L e j = some y → d / 2 = e / 2 → d = e ∧ k = j)
theorem dr_up {n : Nat} {pa : Nat → Nat} (hpa : ∀ u, 1 ≤ u → pa u < u) {u v : Nat} (hu : u < n) (hv : v < n) (h : nb pa u v) : sr pa (dr pa u v) = u ∧ ds pa (dr pa u v) = v ∧ 2 ≤ dr pa u v ∧ dr pa u v < 2 * n ∧ u ≠ v := by
  unfold nb at h
  unfold dr
  by_cases c : 1 ≤ u ∧ pa u = v
  · have h1 := hpa u c.1
    rw [if_pos c]
    have e1 : 2 * u % 2 = 0 := by omega
    have e2 : 2 * u / 2 = u := by omega
    unfold sr ds
    rw [if_pos e1, if_pos e1, e2]
    omega
  · have h2 : 1 ≤ v ∧ pa v = u := by rcases h with h | h
                                     · exact absurd h c
                                     · exact h
    have h1 := hpa v h2.1
    rw [if_neg c]
    have e1 : ¬ (2 * v + 1) % 2 = 0 := by omega
    have e2 : (2 * v + 1) / 2 = v := by omega
    unfold sr ds
    rw [if_neg e1, if_neg e1, e2]
    omega
theorem sd_nb {n : Nat} {pa : Nat → Nat} (hpa : ∀ u, 1 ≤ u → pa u < u) {d : Nat} (h2 : 2 ≤ d) (hd : d < 2 * n) : sr pa d < n ∧ ds pa d < n ∧ nb pa (sr pa d) (ds pa d) ∧ nb pa (ds pa d) (sr pa d) ∧ sr pa d ≠ ds pa d ∧ dr pa (sr pa d) (ds pa d) = d := by
  have h1 := hpa (d / 2) (by omega)
  unfold sr ds nb dr
  by_cases e : d % 2 = 0
  · simp only [e, if_true]
    have : 1 ≤ d / 2 := by omega
    simp only [this, true_and, and_true, if_true]
    refine ⟨by omega, by omega, by simp, by simp, by omega, by omega⟩
  · simp only [e, if_false]
    have h3 : 1 ≤ d / 2 := by omega
    have h4 : ¬ (1 ≤ pa (d / 2) ∧ pa (pa (d / 2)) = d / 2) := by
      intro ⟨q1, q2⟩
      have := hpa _ q1
      omega
    simp only [h3, h4, true_and, and_true, if_false]
    refine ⟨by omega, by omega, by simp, by simp, by omega, by omega⟩
/-- two directed lines over one link are the line and its way back -/
theorem sd_same {n : Nat} {pa : Nat → Nat} (hpa : ∀ u, 1 ≤ u → pa u < u) {d e : Nat} (h2 : 2 ≤ d) (h3 : 2 ≤ e) (h : (sr pa d = sr pa e ∧ ds pa d = ds pa e) ∨ (sr pa d = ds pa e ∧ ds pa d = sr pa e)) : d / 2 = e / 2 := by
  have a1 := hpa (d / 2) (by omega)
  have a2 := hpa (e / 2) (by omega)
  unfold sr ds at h
  by_cases c1 : d % 2 = 0 <;> by_cases c2 : e % 2 = 0 <;> simp only [c1, c2, if_true, if_false] at h <;> omega

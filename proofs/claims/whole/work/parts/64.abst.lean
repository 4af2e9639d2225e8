/-! The state that class and reference hold alike, in plain numbers (99: none): field, index, index.
1 queued, 2 arrow, 3 follower, 4 state, 13 borrower, 20 to 23 the queue, all by copy and library; 5: by copy: 0 where, 1 in the van, 2 how many loans; 14 loans by copy and number; 6: by line: 0 first, 1 next, 2 due; 7, 8: a letter's copy and asker by line and number; 9 how many packets; 10 a packet's parts; 11 who is down. -/
abbrev mm_A : Type := Nat → Nat → Nat → Nat
def as (A : mm_A) (f i j v : Nat) : mm_A := fun a b c => if a = f ∧ b = i ∧ c = j then v else A a b c
theorem as_ap (A : mm_A) (f i j v a b c : Nat) : as A f i j v a b c = if a = f ∧ b = i ∧ c = j then v else A a b c := rfl
theorem as_e (A : mm_A) (f i j v : Nat) : as A f i j v f i j = v := by simp [as]
theorem as_f {A : mm_A} {f i j v a : Nat} (h : a ≠ f) : as A f i j v a = A a := by
  funext b c
  simp [as, h]
theorem as_i {A : mm_A} {f i j v b : Nat} (h : b ≠ i) : as A f i j v f b = A f b := by
  funext c
  simp [as, h]
theorem as_j {A : mm_A} {f i j v c : Nat} (h : c ≠ j) : as A f i j v f i c = A f i c := by
  simp [as, h]
theorem as_pu (A : mm_A) (f i j v : Nat) : as A f i j v f i = pu (A f i) j v := by
  funext c
  simp [as, pu]
def zf (k : Nat) : Int32 := if k = 99 then nN else nI k
theorem zf_99 : zf 99 = nN := rfl
theorem zf_n {k : Nat} (h : k ≠ 99) : zf k = nI k := if_neg h
def pr3 (sh l : Nat) : Int32 := if l = 0 then nN else nI (pa3 sh l)
def RpD (n : Nat) (C : mm_M) (A : mm_A) : Prop := ∀ c l, c < 3 → l < n → C 8 (12 * c + l) 1 = nI (A 1 c l) ∧ C 8 (12 * c + l) 2 = zf (A 2 c l) ∧ C 8 (12 * c + l) 3 = zf (A 3 c l) ∧ C 8 (12 * c + l) 4 = nI (A 4 c l) ∧ C 8 (12 * c + l) 5 = nI (A 13 c l) ∧ ∀ k, k < 4 → C 9 (12 * c + l) k = nI (A (20 + k) c l)
def RpC (C : mm_M) (A : mm_A) : Prop := ∀ c, c < 3 → C 5 c 3 = zf (A 5 c 0) ∧ C 5 c 4 = nI (A 5 c 1) ∧ C 5 c 2 = nI (A 5 c 2) ∧ ∀ k, k < 200 → C 7 c k = nI (A 14 c k)
def RpL (n : Nat) (C : mm_M) (A : mm_A) : Prop := ∀ d, d < 2 * n → C 14 d 2 = nI (A 6 d 0) ∧ C 14 d 3 = nI (A 6 d 1) ∧ C 14 d 4 = nI (A 6 d 2) ∧ ∀ k, A 6 d 0 ≤ k → k < A 6 d 1 → C 15 d (k % 4) = nI (A 7 d k) ∧ C 16 d (k % 4) = nI (A 8 d k)
def RpP (C : mm_M) (A : mm_A) : Prop := C 10 0 1 = nI (A 9 0 0) ∧ ∀ i, i < A 9 0 0 → C 11 0 (6 * i) = nI (A 10 i 0) ∧ C 11 0 (6 * i + 1) = nI (A 10 i 1) ∧ C 11 0 (6 * i + 2) = nI (A 10 i 2) ∧ C 11 0 (6 * i + 3) = nI (A 10 i 3) ∧ C 11 0 (6 * i + 4) = zf (A 10 i 4) ∧ C 11 0 (6 * i + 5) = zf (A 10 i 5)
def RpU (n : Nat) (C : mm_M) (A : mm_A) : Prop := ∀ l, l < n → C 1 0 l = nI (A 11 l 0)
def RpF (n sh : Nat) (C : mm_M) : Prop := C 0 0 0 = nI n ∧ C 12 0 0 = nI n ∧ ∀ l, l < n → C 3 0 l = pr3 sh l
def Rp (n sh : Nat) (C : mm_M) (A : mm_A) : Prop := RpD n C A ∧ RpC C A ∧ RpL n C A ∧ RpP C A ∧ RpU n C A ∧ RpF n sh C
/-! the reference's half -/
def RmD (n : Nat) (M : mm_M) (A : mm_A) : Prop := ∀ c l, c < 3 → l < n → M 28 0 (12 * c + l) = nI (A 1 c l) ∧ (A 5 c 0 ≠ 99 → M 24 0 (12 * c + l) = zf (A 2 c l) ∧ M 25 0 (12 * c + l) = zf (A 3 c l)) ∧ M 26 0 (12 * c + l) = nI (A 4 c l) ∧ M 27 0 (12 * c + l) = nI (A 13 c l) ∧ ∀ k, k < 4 → M 29 0 (4 * (12 * c + l) + k) = nI (A (20 + k) c l)
def RmC (M : mm_M) (A : mm_A) : Prop := ∀ c, c < 3 → M 30 0 c = zf (A 5 c 0) ∧ M 31 0 c = nI (A 5 c 1) ∧ M 32 0 c = nI (A 5 c 2) ∧ (M 23 0 c = if A 5 c 0 = 99 then nI 0 else nI 1) ∧ ∀ k, k < 200 → M 33 0 (200 * c + k) = nI (A 14 c k)
def RmL (n : Nat) (M : mm_M) (A : mm_A) : Prop := (∀ d, d < 2 * n → M 34 0 d = nI (A 6 d 0) ∧ M 35 0 d = nI (A 6 d 1) ∧ M 36 0 d = nI (A 6 d 2) ∧ ∀ k, A 6 d 0 ≤ k → k < A 6 d 1 → M 37 0 (64 * d + k % 64) = nI (A 7 d k) ∧ M 38 0 (64 * d + k % 64) = nI (A 8 d k)) ∧ ∀ d, 2 * n ≤ d → d < 24 → M 35 0 d = M 34 0 d
def RmP (M : mm_M) (A : mm_A) : Prop := M 20 0 20 = nI (A 9 0 0) ∧ ∀ i, i < A 9 0 0 → M 39 0 i = nI (A 10 i 0) ∧ M 40 0 i = nI (A 10 i 1) ∧ M 41 0 i = nI (A 10 i 2) ∧ M 42 0 i = nI (A 10 i 3) ∧ M 43 0 i = zf (A 10 i 4) ∧ M 44 0 i = zf (A 10 i 5)
def RmU (n : Nat) (M : mm_M) (A : mm_A) : Prop := ∀ l, l < n → M 22 0 l = nI (A 11 l 0)
def RmF (n sh : Nat) (M : mm_M) : Prop := M 20 0 1 = nI n ∧ ∀ l, l < 12 → M 21 0 l = pr3 sh l
def Rm (n sh : Nat) (M : mm_M) (A : mm_A) : Prop := RmD n M A ∧ RmC M A ∧ RmL n M A ∧ RmP M A ∧ RmU n M A ∧ RmF n sh M
/-! what always holds -/
def Lv (n : Nat) (A : mm_A) (c : Nat) : Nat → Nat → Option Nat := fun d k => if d < 2 * n ∧ A 6 d 2 ≤ k ∧ k < A 6 d 1 ∧ A 7 d k = c then some (A 8 d k) else none
def PQ (n sh : Nat) (A : mm_A) (c : Nat) : Prop := P1 n (pa3 sh) (A 2 c) (A 3 c) (A 4 c) (A 5 c 0) (A 5 c 1) (Lv n A c)
def PrD (n : Nat) (A : mm_A) : Prop := ∀ c l, c < 3 → l < n → A 1 c l ≤ 4 ∧ A 4 c l ≤ 4 ∧ (A 4 c l = 1 ∨ A 4 c l = 2 → 1 ≤ A 1 c l)
def PrC (n sh : Nat) (A : mm_A) : Prop := ∀ c, c < 3 → A 5 c 2 ≤ 200 ∧ A 5 c 1 ≤ 1 ∧ (A 5 c 0 = 99 → A 5 c 1 = 0 ∧ ∀ l, l < n → A 4 c l = 0 ∧ A 3 c l = 99) ∧ (A 5 c 0 ≠ 99 → PQ n sh A c)
def PrL (n T : Nat) (A : mm_A) : Prop := ∀ d, d < 2 * n → A 6 d 0 ≤ A 6 d 2 ∧ A 6 d 2 ≤ A 6 d 0 + 1 ∧ A 6 d 2 ≤ A 6 d 1 ∧ A 6 d 1 ≤ T ∧ ∀ k, A 6 d 0 ≤ k → k < A 6 d 1 → A 7 d k < 3 ∧ A 8 d k < n ∧ A 5 (A 7 d k) 0 ≠ 99
def PkP (n sh : Nat) (A : mm_A) (i : Nat) : Prop := A 10 i 0 ≤ 1 ∧ A 10 i 1 < n ∧ A 10 i 2 < n ∧ nb (pa3 sh) (A 10 i 1) (A 10 i 2) ∧
  (A 10 i 0 = 0 → A 10 i 3 ≤ A 6 (dr (pa3 sh) (A 10 i 1) (A 10 i 2)) 0 ∧ (A 10 i 3 = A 6 (dr (pa3 sh) (A 10 i 1) (A 10 i 2)) 0 → A 6 (dr (pa3 sh) (A 10 i 1) (A 10 i 2)) 0 < A 6 (dr (pa3 sh) (A 10 i 1) (A 10 i 2)) 1 ∧ A 10 i 4 = A 7 (dr (pa3 sh) (A 10 i 1) (A 10 i 2)) (A 10 i 3) ∧ A 10 i 5 = A 8 (dr (pa3 sh) (A 10 i 1) (A 10 i 2)) (A 10 i 3))) ∧
  (A 10 i 0 = 1 → A 10 i 3 < A 6 (dr (pa3 sh) (A 10 i 2) (A 10 i 1)) 2)
def PrP (n sh : Nat) (A : mm_A) : Prop := A 9 0 0 ≤ 40 ∧ ∀ i, i < A 9 0 0 → PkP n sh A i
def PrU (n : Nat) (A : mm_A) : Prop := ∀ l, l < n → A 11 l 0 ≤ 1
def Pr (n sh T : Nat) (A : mm_A) : Prop := PrD n A ∧ PrC n sh A ∧ PrL n T A ∧ PrP n sh A ∧ PrU n A
/-! the steps -/
def sPut (A : mm_A) (kd fr to nu cp ak : Nat) : mm_A := if A 9 0 0 = 40 then A else as (as (as (as (as (as (as A 10 (A 9 0 0) 0 kd) 10 (A 9 0 0) 1 fr) 10 (A 9 0 0) 2 to) 10 (A 9 0 0) 3 nu) 10 (A 9 0 0) 4 cp) 10 (A 9 0 0) 5 ak) 9 0 0 (A 9 0 0 + 1)
def sPF (A : mm_A) (d fr to : Nat) : mm_A := sPut A 0 fr to (A 6 d 0) (A 7 d (A 6 d 0)) (A 8 d (A 6 d 0))
def sApp (A : mm_A) (d c a : Nat) : mm_A := as (as (as A 7 d (A 6 d 1) c) 8 d (A 6 d 1) a) 6 d 1 (A 6 d 1 + 1)
def sSend (sh : Nat) (A : mm_A) (fr to c a : Nat) : mm_A := if A 6 (dr (pa3 sh) fr to) 0 = A 6 (dr (pa3 sh) fr to) 1 then sPF (sApp A (dr (pa3 sh) fr to) c a) (dr (pa3 sh) fr to) fr to else sApp A (dr (pa3 sh) fr to) c a
def sOpen (sh : Nat) (A : mm_A) (c l : Nat) : mm_A := if A 4 c l = 4 then as A 4 c l 2 else if A 4 c l = 0 then sSend sh (as (as A 4 c l 1) 2 c l l) l (A 2 c l) c l else A
def sOn (A : mm_A) (c l : Nat) : mm_A := as (as (as (as A 5 c 0 (A 3 c l)) 5 c 1 1) 3 c l 99) 4 c l 0
def sTake (sh : Nat) (A : mm_A) (fr to c a : Nat) : mm_A := if A 2 c to = to then (if A 4 c to = 4 then sOn (as (as A 2 c to fr) 3 c to a) c to else as (as A 2 c to fr) 3 c to a) else sSend sh (as A 2 c to fr) to (A 2 c to) c a
def sRem (A : mm_A) (i : Nat) : mm_A := as (fun a b w => if a = 10 ∧ i ≤ b then A 10 (b + 1) w else A a b w) 9 0 0 (A 9 0 0 - 1)

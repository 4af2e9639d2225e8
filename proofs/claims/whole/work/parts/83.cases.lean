/-! the law's cases: class and reference answer alike, and go on so -/
def mm_LS (n sh T : Nat) (g : mm_M) : Prop := ∃ (C M : mm_M) (A : mm_A), g = jn C M ∧ Rp n sh C A ∧ Rm n sh M A ∧ Pr n sh T A
theorem cmp_self (x : Int64) : lg_cmp x x = 0 := by
  unfold lg_cmp
  simp
theorem thr_e {n : Nat} (g : mm_M) : f_Mo_thrown n g 0 = some (0, g 20 0 0, g) := rfl
theorem tc_S {α β : Type} (e : Nat) (v : α) (g : mm_M) (k : α → mm_M → Option β) (hd : Nat → mm_M → Option β) : mm_tc (some (e + 1, v, g)) k hd = hd (e + 1) g := rfl
def es_ok (es : List Nat) (th : Nat → Nat) (hd : Nat → mm_M → Option (Int32 × mm_M)) : Prop := th 0 = 0 ∧ ∀ e ∈ es, e ≠ 0 → (∀ g, hd e g = some (nI (th e), g)) ∧ nI (th e) ≠ 0
section CS
variable {n sh T : Nat} {A : mm_A} {C M : mm_M} {fc fm : mm_M → Option (Nat × Int32 × mm_M)} {es : List Nat} {th : Nat → Nat}
theorem cs_v (h : AG n sh T A C fc fm es th) (hM : Rm n sh M A) (hd : Nat → mm_M → Option (Int32 × mm_M)) (hh : es_ok es th hd) :
    ∃ g', mm_ob (mm_tc (fc (jn C M)) (fun _ g2 => some (0, g2)) hd) (fun z1 g2 => mm_tc (fm g2) (fun _ g5 => mm_tc (f_Mo_thrown n g5 0) (fun z7 g8 => (if z7 = z1 then some g8 else none)) (fun _ _ => none)) (fun _ _ => none)) = some g' ∧ mm_LS n sh (T + 1) g' := by
  obtain ⟨e, v, C', A', he, h1, h2, h3, h4⟩ := h
  obtain ⟨v', M', g1, g2, g3, g4, g5⟩ := h4 M hM
  refine ⟨jn C' M', ?_, C', M', A', rfl, h2, g2, h3⟩
  cases e with
  | zero =>
    rw [h1, tc_0, ob_s, g1, tc_0, thr_e, tc_0, jn_20, g4, hh.1]
    exact if_pos rfl
  | succ e =>
    rw [h1, tc_S, (hh.2 _ he (Nat.succ_ne_zero e)).1, ob_s, g1, tc_0, thr_e, tc_0, jn_20, g4]
    exact if_pos rfl
theorem cs_i (h : AG n sh T A C fc fm es th) (hM : Rm n sh M A) (hd : Nat → mm_M → Option (Int32 × mm_M)) (hh : es_ok es th hd) :
    ∃ g', mm_ob (mm_tc (fc (jn C M)) (fun z1 g2 => mm_let (mm_st g2 50 0 0 z1) (fun g4 => some (0, g4))) hd) (fun z1 g2 => mm_tc (fm g2) (fun z4 g5 => mm_tc (f_Mo_thrown n g5 0) (fun z7 g8 => (if z7 = z1 then (if z1 = 0 then (if (lg_cmp (Int32.toInt64 (g8 50 0 0)) (Int32.toInt64 z4)) = 0 then some g8 else none) else some g8) else none)) (fun _ _ => none)) (fun _ _ => none)) = some g' ∧ mm_LS n sh (T + 1) g' := by
  obtain ⟨e, v, C', A', he, h1, h2, h3, h4⟩ := h
  cases e with
  | zero =>
    obtain ⟨v', M', g1, g2, g3, g4, g5⟩ := h4 (mm_st M 50 0 0 v) (Rm_50 hM)
    refine ⟨jn C' M', ?_, C', M', A', rfl, h2, g2, h3⟩
    rw [h1, tc_0, let_e, ob_s, js_50, g1, tc_0, thr_e, tc_0, jn_20, g4, hh.1, jn_50, g3, st_eq, g5 rfl, cmp_self]
    rw [if_pos (show nI 0 = (0 : Int32) from rfl), if_pos rfl, if_pos rfl]
  | succ e =>
    obtain ⟨v', M', g1, g2, g3, g4, g5⟩ := h4 M hM
    refine ⟨jn C' M', ?_, C', M', A', rfl, h2, g2, h3⟩
    have q := hh.2 _ he (Nat.succ_ne_zero e)
    rw [h1, tc_S, q.1, ob_s, g1, tc_0, thr_e, tc_0, jn_20, g4, if_pos rfl, if_neg q.2]
theorem cs_b (h : AG n sh T A C fc fm es th) (hM : Rm n sh M A) (hd : Nat → mm_M → Option (Int32 × mm_M)) (hh : es_ok es th hd) :
    ∃ g', mm_ob (mm_tc (fc (jn C M)) (fun z1 g2 => (if z1 = 0 then mm_let (mm_st g2 50 0 0 0) (fun g4 => some (0, g4)) else mm_let (mm_st g2 50 0 0 1) (fun g6 => some (0, g6)))) hd) (fun z1 g2 => mm_tc (fm g2) (fun z4 g5 => mm_tc (f_Mo_thrown n g5 0) (fun z7 g8 => (if z7 = z1 then (if z1 = 0 then (if z4 = 0 then (if (lg_cmp (Int32.toInt64 (g8 50 0 0)) (Int32.toInt64 0)) = 0 then some g8 else none) else (if (lg_cmp (Int32.toInt64 (g8 50 0 0)) (Int32.toInt64 1)) = 0 then some g8 else none)) else some g8) else none)) (fun _ _ => none)) (fun _ _ => none)) = some g' ∧ mm_LS n sh (T + 1) g' := by
  obtain ⟨e, v, C', A', he, h1, h2, h3, h4⟩ := h
  cases e with
  | zero =>
    by_cases hv : v = 0
    · obtain ⟨v', M', g1, g2, g3, g4, g5⟩ := h4 (mm_st M 50 0 0 0) (Rm_50 hM)
      refine ⟨jn C' M', ?_, C', M', A', rfl, h2, g2, h3⟩
      rw [h1, tc_0, if_pos hv, let_e, ob_s, js_50, g1, tc_0, thr_e, tc_0, jn_20, g4, hh.1, jn_50, g3, st_eq, g5 rfl, cmp_self]
      rw [if_pos (show nI 0 = (0 : Int32) from rfl), if_pos rfl, if_pos hv, if_pos rfl]
    · obtain ⟨v', M', g1, g2, g3, g4, g5⟩ := h4 (mm_st M 50 0 0 1) (Rm_50 hM)
      refine ⟨jn C' M', ?_, C', M', A', rfl, h2, g2, h3⟩
      rw [h1, tc_0, if_neg hv, let_e, ob_s, js_50, g1, tc_0, thr_e, tc_0, jn_20, g4, hh.1, jn_50, g3, st_eq, g5 rfl, cmp_self]
      rw [if_pos (show nI 0 = (0 : Int32) from rfl), if_pos rfl, if_neg hv, if_pos rfl]
  | succ e =>
    obtain ⟨v', M', g1, g2, g3, g4, g5⟩ := h4 M hM
    refine ⟨jn C' M', ?_, C', M', A', rfl, h2, g2, h3⟩
    have q := hh.2 _ he (Nat.succ_ne_zero e)
    rw [h1, tc_S, q.1, ob_s, g1, tc_0, thr_e, tc_0, jn_20, g4, if_pos rfl, if_neg q.2]
theorem cs_0 (h : AG n sh T A C fc fm [0] th) (hM : Rm n sh M A) :
    ∃ g', mm_tc (fc (jn C M)) (fun z1 g2 => mm_tc (fm g2) (fun z4 g5 => (if z1 = z4 then some g5 else none)) (fun _ _ => none)) (fun _ _ => none) = some g' ∧ mm_LS n sh (T + 1) g' := by
  obtain ⟨e, v, C', A', he, h1, h2, h3, h4⟩ := h
  cases List.mem_singleton.mp he
  obtain ⟨v', M', g1, g2, g3, g4, g5⟩ := h4 M hM
  refine ⟨jn C' M', ?_, C', M', A', rfl, h2, g2, h3⟩
  rw [h1, tc_0, g1, tc_0, g5 rfl]
  exact if_pos rfl
end CS
theorem es_1 : es_ok [0, 1] th1 (fun xe g2 => (if xe = 1 then some (1, g2) else none)) := by
  refine ⟨rfl, fun e he h0 => ?_⟩
  simp only [List.mem_cons, List.not_mem_nil, or_false] at he
  rcases he with rfl | rfl
  · exact absurd rfl h0
  · exact ⟨fun g => rfl, by decide⟩
theorem es_3 : es_ok [0, 1, 3] th1 (fun xe g2 => (if xe = 1 then some (1, g2) else (if xe = 3 then some (2, g2) else none))) := by
  refine ⟨rfl, fun e he h0 => ?_⟩
  simp only [List.mem_cons, List.not_mem_nil, or_false] at he
  rcases he with rfl | rfl | rfl
  · exact absurd rfl h0
  · exact ⟨fun g => rfl, by decide⟩
  · exact ⟨fun g => rfl, by decide⟩
theorem es_4 : es_ok [0, 1, 2, 3] (fun e => e) (fun xe g2 => (if xe = 1 then some (1, g2) else (if xe = 2 then some (2, g2) else (if xe = 3 then some (3, g2) else none)))) := by
  refine ⟨rfl, fun e he h0 => ?_⟩
  simp only [List.mem_cons, List.not_mem_nil, or_false] at he
  rcases he with rfl | rfl | rfl | rfl
  · exact absurd rfl h0
  · exact ⟨fun g => rfl, by decide⟩
  · exact ⟨fun g => rfl, by decide⟩
  · exact ⟨fun g => rfl, by decide⟩
theorem ixk {α : Type} {i a Ln : Nat} {k : Option α} (h : i + a < Ln) (hL : Ln ≤ 2050) : mm_ix (nI i + nI a) Ln k = k := by
  rw [nI_add]
  exact ix_n h (by omega)
theorem lw_152 {n sh T Ln i : Nat} {xs : Nat → Int32} {g : mm_M} (hs : sh < 3) (hn : n ≤ 12) (hn2 : 2 ≤ n) (hT : T < 1000000) (hi : i + 4 ≤ Ln) (hL : Ln ≤ 2050) (h : mm_LS n sh T g) : ∃ g', f_Lw_case152 n xs Ln g (nI i) = some g' ∧ mm_LS n sh (T + 1) g' := by
  obtain ⟨C, M, A, rfl, hR, hM, hP⟩ := h
  have e1 : ∀ {α : Type} (k : Option α), mm_ix (nI i + 1) Ln k = k := fun k => ixk (a := 1) (by omega) hL
  have e2 : ∀ {α : Type} (k : Option α), mm_ix (nI i + 2) Ln k = k := fun k => ixk (a := 2) (by omega) hL
  have e3 : ∀ {α : Type} (k : Option α), mm_ix (nI i + 3) Ln k = k := fun k => ixk (a := 3) (by omega) hL
  unfold f_Lw_case152 f_Lw_copyAt
  simp only [e1, e2, e3]
  have q := cs_v (ag_copyAt hs hn hR hP (xs (nI i + 1).toNatClampNeg) (xs (nI i + 2).toNatClampNeg)) hM _ es_3
  exact q
theorem lw_200 {n sh T Ln i : Nat} {xs : Nat → Int32} {g : mm_M} (hs : sh < 3) (hn : n ≤ 12) (hn2 : 2 ≤ n) (hT : T < 1000000) (hi : i + 4 ≤ Ln) (hL : Ln ≤ 2050) (h : mm_LS n sh T g) : ∃ g', f_Lw_case200 n xs Ln g (nI i) = some g' ∧ mm_LS n sh (T + 1) g' := by
  obtain ⟨C, M, A, rfl, hR, hM, hP⟩ := h
  have e1 : ∀ {α : Type} (k : Option α), mm_ix (nI i + 1) Ln k = k := fun k => ixk (a := 1) (by omega) hL
  have e2 : ∀ {α : Type} (k : Option α), mm_ix (nI i + 2) Ln k = k := fun k => ixk (a := 2) (by omega) hL
  have e3 : ∀ {α : Type} (k : Option α), mm_ix (nI i + 3) Ln k = k := fun k => ixk (a := 3) (by omega) hL
  unfold f_Lw_case200 f_Lw_want
  simp only [e1, e2, e3]
  have q := cs_i (AG_want hn hT hR hP (xs (nI i + 1).toNatClampNeg) (xs (nI i + 2).toNatClampNeg) (xs (nI i + 3).toNatClampNeg)) hM _ es_4
  exact q
theorem lw_280 {n sh T Ln i : Nat} {xs : Nat → Int32} {g : mm_M} (hs : sh < 3) (hn : n ≤ 12) (hn2 : 2 ≤ n) (hT : T < 1000000) (hi : i + 4 ≤ Ln) (hL : Ln ≤ 2050) (h : mm_LS n sh T g) : ∃ g', f_Lw_case280 n xs Ln g (nI i) = some g' ∧ mm_LS n sh (T + 1) g' := by
  obtain ⟨C, M, A, rfl, hR, hM, hP⟩ := h
  have e1 : ∀ {α : Type} (k : Option α), mm_ix (nI i + 1) Ln k = k := fun k => ixk (a := 1) (by omega) hL
  have e2 : ∀ {α : Type} (k : Option α), mm_ix (nI i + 2) Ln k = k := fun k => ixk (a := 2) (by omega) hL
  have e3 : ∀ {α : Type} (k : Option α), mm_ix (nI i + 3) Ln k = k := fun k => ixk (a := 3) (by omega) hL
  unfold f_Lw_case280 f_Lw_lend
  simp only [e1, e2, e3]
  have q := cs_i (ag_lend hn hR hP (xs (nI i + 1).toNatClampNeg) (xs (nI i + 2).toNatClampNeg)) hM _ es_3
  exact q
theorem lw_348 {n sh T Ln i : Nat} {xs : Nat → Int32} {g : mm_M} (hs : sh < 3) (hn : n ≤ 12) (hn2 : 2 ≤ n) (hT : T < 1000000) (hi : i + 4 ≤ Ln) (hL : Ln ≤ 2050) (h : mm_LS n sh T g) : ∃ g', f_Lw_case348 n xs Ln g (nI i) = some g' ∧ mm_LS n sh (T + 1) g' := by
  obtain ⟨C, M, A, rfl, hR, hM, hP⟩ := h
  have e1 : ∀ {α : Type} (k : Option α), mm_ix (nI i + 1) Ln k = k := fun k => ixk (a := 1) (by omega) hL
  have e2 : ∀ {α : Type} (k : Option α), mm_ix (nI i + 2) Ln k = k := fun k => ixk (a := 2) (by omega) hL
  have e3 : ∀ {α : Type} (k : Option α), mm_ix (nI i + 3) Ln k = k := fun k => ixk (a := 3) (by omega) hL
  unfold f_Lw_case348 f_Lw_giveBack
  simp only [e1, e2, e3]
  have q := cs_i (ag_give hn hT hR hP (xs (nI i + 1).toNatClampNeg) (xs (nI i + 2).toNatClampNeg)) hM _ es_3
  exact q
theorem lw_416 {n sh T Ln i : Nat} {xs : Nat → Int32} {g : mm_M} (hs : sh < 3) (hn : n ≤ 12) (hn2 : 2 ≤ n) (hT : T < 1000000) (hi : i + 4 ≤ Ln) (hL : Ln ≤ 2050) (h : mm_LS n sh T g) : ∃ g', f_Lw_case416 n xs Ln g (nI i) = some g' ∧ mm_LS n sh (T + 1) g' := by
  obtain ⟨C, M, A, rfl, hR, hM, hP⟩ := h
  have e1 : ∀ {α : Type} (k : Option α), mm_ix (nI i + 1) Ln k = k := fun k => ixk (a := 1) (by omega) hL
  have e2 : ∀ {α : Type} (k : Option α), mm_ix (nI i + 2) Ln k = k := fun k => ixk (a := 2) (by omega) hL
  have e3 : ∀ {α : Type} (k : Option α), mm_ix (nI i + 3) Ln k = k := fun k => ixk (a := 3) (by omega) hL
  unfold f_Lw_case416 f_Lw_van
  simp only [e1, e2, e3]
  have q := cs_i (ag_van hn hR hP (xs (nI i + 1).toNatClampNeg)) hM _ es_3
  exact q
theorem lw_472 {n sh T Ln i : Nat} {xs : Nat → Int32} {g : mm_M} (hs : sh < 3) (hn : n ≤ 12) (hn2 : 2 ≤ n) (hT : T < 1000000) (hi : i + 4 ≤ Ln) (hL : Ln ≤ 2050) (h : mm_LS n sh T g) : ∃ g', f_Lw_case472 n xs Ln g (nI i) = some g' ∧ mm_LS n sh (T + 1) g' := by
  obtain ⟨C, M, A, rfl, hR, hM, hP⟩ := h
  have e1 : ∀ {α : Type} (k : Option α), mm_ix (nI i + 1) Ln k = k := fun k => ixk (a := 1) (by omega) hL
  have e2 : ∀ {α : Type} (k : Option α), mm_ix (nI i + 2) Ln k = k := fun k => ixk (a := 2) (by omega) hL
  have e3 : ∀ {α : Type} (k : Option α), mm_ix (nI i + 3) Ln k = k := fun k => ixk (a := 3) (by omega) hL
  unfold f_Lw_case472 f_Lw_sendAll
  simp only [e1, e2, e3]
  have q := cs_i (ag_sendAll hn (Nat.le_of_lt hT) hR hP (xs (nI i + 1).toNatClampNeg)) hM _ es_3
  exact q
theorem lw_528 {n sh T Ln i : Nat} {xs : Nat → Int32} {g : mm_M} (hs : sh < 3) (hn : n ≤ 12) (hn2 : 2 ≤ n) (hT : T < 1000000) (hi : i + 4 ≤ Ln) (hL : Ln ≤ 2050) (h : mm_LS n sh T g) : ∃ g', f_Lw_case528 n xs Ln g (nI i) = some g' ∧ mm_LS n sh (T + 1) g' := by
  obtain ⟨C, M, A, rfl, hR, hM, hP⟩ := h
  unfold f_Lw_case528
  have q := cs_0 (ag_pending hR hP) hM
  exact q
theorem lw_541 {n sh T Ln i : Nat} {xs : Nat → Int32} {g : mm_M} (hs : sh < 3) (hn : n ≤ 12) (hn2 : 2 ≤ n) (hT : T < 1000000) (hi : i + 4 ≤ Ln) (hL : Ln ≤ 2050) (h : mm_LS n sh T g) : ∃ g', f_Lw_case541 n xs Ln g (nI i) = some g' ∧ mm_LS n sh (T + 1) g' := by
  obtain ⟨C, M, A, rfl, hR, hM, hP⟩ := h
  have e1 : ∀ {α : Type} (k : Option α), mm_ix (nI i + 1) Ln k = k := fun k => ixk (a := 1) (by omega) hL
  have e2 : ∀ {α : Type} (k : Option α), mm_ix (nI i + 2) Ln k = k := fun k => ixk (a := 2) (by omega) hL
  have e3 : ∀ {α : Type} (k : Option α), mm_ix (nI i + 3) Ln k = k := fun k => ixk (a := 3) (by omega) hL
  unfold f_Lw_case541 f_Lw_packet
  simp only [e1, e2, e3]
  have q := cs_i (ag_packet hR hP (xs (nI i + 1).toNatClampNeg) (xs (nI i + 2).toNatClampNeg)) hM _ es_1
  exact q
theorem lw_609 {n sh T Ln i : Nat} {xs : Nat → Int32} {g : mm_M} (hs : sh < 3) (hn : n ≤ 12) (hn2 : 2 ≤ n) (hT : T < 1000000) (hi : i + 4 ≤ Ln) (hL : Ln ≤ 2050) (h : mm_LS n sh T g) : ∃ g', f_Lw_case609 n xs Ln g (nI i) = some g' ∧ mm_LS n sh (T + 1) g' := by
  obtain ⟨C, M, A, rfl, hR, hM, hP⟩ := h
  have e1 : ∀ {α : Type} (k : Option α), mm_ix (nI i + 1) Ln k = k := fun k => ixk (a := 1) (by omega) hL
  have e2 : ∀ {α : Type} (k : Option α), mm_ix (nI i + 2) Ln k = k := fun k => ixk (a := 2) (by omega) hL
  have e3 : ∀ {α : Type} (k : Option α), mm_ix (nI i + 3) Ln k = k := fun k => ixk (a := 3) (by omega) hL
  unfold f_Lw_case609 f_Lw_deliver
  simp only [e1, e2, e3]
  have q := cs_i (ag_deliver hn hT hR hP (xs (nI i + 1).toNatClampNeg)) hM _ es_1
  exact q
theorem lw_665 {n sh T Ln i : Nat} {xs : Nat → Int32} {g : mm_M} (hs : sh < 3) (hn : n ≤ 12) (hn2 : 2 ≤ n) (hT : T < 1000000) (hi : i + 4 ≤ Ln) (hL : Ln ≤ 2050) (h : mm_LS n sh T g) : ∃ g', f_Lw_case665 n xs Ln g (nI i) = some g' ∧ mm_LS n sh (T + 1) g' := by
  obtain ⟨C, M, A, rfl, hR, hM, hP⟩ := h
  have e1 : ∀ {α : Type} (k : Option α), mm_ix (nI i + 1) Ln k = k := fun k => ixk (a := 1) (by omega) hL
  have e2 : ∀ {α : Type} (k : Option α), mm_ix (nI i + 2) Ln k = k := fun k => ixk (a := 2) (by omega) hL
  have e3 : ∀ {α : Type} (k : Option α), mm_ix (nI i + 3) Ln k = k := fun k => ixk (a := 3) (by omega) hL
  unfold f_Lw_case665 f_Lw_drop
  simp only [e1, e2, e3]
  have q := cs_i (ag_drop hR hP (xs (nI i + 1).toNatClampNeg)) hM _ es_1
  exact q
theorem lw_721 {n sh T Ln i : Nat} {xs : Nat → Int32} {g : mm_M} (hs : sh < 3) (hn : n ≤ 12) (hn2 : 2 ≤ n) (hT : T < 1000000) (hi : i + 4 ≤ Ln) (hL : Ln ≤ 2050) (h : mm_LS n sh T g) : ∃ g', f_Lw_case721 n xs Ln g (nI i) = some g' ∧ mm_LS n sh (T + 1) g' := by
  obtain ⟨C, M, A, rfl, hR, hM, hP⟩ := h
  have e1 : ∀ {α : Type} (k : Option α), mm_ix (nI i + 1) Ln k = k := fun k => ixk (a := 1) (by omega) hL
  have e2 : ∀ {α : Type} (k : Option α), mm_ix (nI i + 2) Ln k = k := fun k => ixk (a := 2) (by omega) hL
  have e3 : ∀ {α : Type} (k : Option α), mm_ix (nI i + 3) Ln k = k := fun k => ixk (a := 3) (by omega) hL
  unfold f_Lw_case721 f_Lw_twin
  simp only [e1, e2, e3]
  have q := cs_b (ag_twin hR hP (xs (nI i + 1).toNatClampNeg)) hM _ es_1
  exact q
theorem lw_784 {n sh T Ln i : Nat} {xs : Nat → Int32} {g : mm_M} (hs : sh < 3) (hn : n ≤ 12) (hn2 : 2 ≤ n) (hT : T < 1000000) (hi : i + 4 ≤ Ln) (hL : Ln ≤ 2050) (h : mm_LS n sh T g) : ∃ g', f_Lw_case784 n xs Ln g (nI i) = some g' ∧ mm_LS n sh (T + 1) g' := by
  obtain ⟨C, M, A, rfl, hR, hM, hP⟩ := h
  have e1 : ∀ {α : Type} (k : Option α), mm_ix (nI i + 1) Ln k = k := fun k => ixk (a := 1) (by omega) hL
  have e2 : ∀ {α : Type} (k : Option α), mm_ix (nI i + 2) Ln k = k := fun k => ixk (a := 2) (by omega) hL
  have e3 : ∀ {α : Type} (k : Option α), mm_ix (nI i + 3) Ln k = k := fun k => ixk (a := 3) (by omega) hL
  unfold f_Lw_case784 f_Lw_crash
  simp only [e1, e2, e3]
  have q := cs_v (ag_crash hn hR hP (xs (nI i + 1).toNatClampNeg)) hM _ es_3
  exact q
theorem lw_820 {n sh T Ln i : Nat} {xs : Nat → Int32} {g : mm_M} (hs : sh < 3) (hn : n ≤ 12) (hn2 : 2 ≤ n) (hT : T < 1000000) (hi : i + 4 ≤ Ln) (hL : Ln ≤ 2050) (h : mm_LS n sh T g) : ∃ g', f_Lw_case820 n xs Ln g (nI i) = some g' ∧ mm_LS n sh (T + 1) g' := by
  obtain ⟨C, M, A, rfl, hR, hM, hP⟩ := h
  have e1 : ∀ {α : Type} (k : Option α), mm_ix (nI i + 1) Ln k = k := fun k => ixk (a := 1) (by omega) hL
  have e2 : ∀ {α : Type} (k : Option α), mm_ix (nI i + 2) Ln k = k := fun k => ixk (a := 2) (by omega) hL
  have e3 : ∀ {α : Type} (k : Option α), mm_ix (nI i + 3) Ln k = k := fun k => ixk (a := 3) (by omega) hL
  unfold f_Lw_case820 f_Lw_restart
  simp only [e1, e2, e3]
  have q := cs_i (ag_restart hn (Nat.le_of_lt hT) hR hP (xs (nI i + 1).toNatClampNeg)) hM _ es_3
  exact q
theorem lw_876 {n sh T Ln i : Nat} {xs : Nat → Int32} {g : mm_M} (hs : sh < 3) (hn : n ≤ 12) (hn2 : 2 ≤ n) (hT : T < 1000000) (hi : i + 4 ≤ Ln) (hL : Ln ≤ 2050) (h : mm_LS n sh T g) : ∃ g', f_Lw_case876 n xs Ln g (nI i) = some g' ∧ mm_LS n sh (T + 1) g' := by
  obtain ⟨C, M, A, rfl, hR, hM, hP⟩ := h
  have e1 : ∀ {α : Type} (k : Option α), mm_ix (nI i + 1) Ln k = k := fun k => ixk (a := 1) (by omega) hL
  have e2 : ∀ {α : Type} (k : Option α), mm_ix (nI i + 2) Ln k = k := fun k => ixk (a := 2) (by omega) hL
  have e3 : ∀ {α : Type} (k : Option α), mm_ix (nI i + 3) Ln k = k := fun k => ixk (a := 3) (by omega) hL
  unfold f_Lw_case876 f_Lw_of1
  simp only [e1, e2, e3]
  have q := cs_i (ag_of hn hR hP (xs (nI i + 1).toNatClampNeg) (xs (nI i + 2).toNatClampNeg) (xs (nI i + 3).toNatClampNeg)) hM _ es_1
  exact q
theorem lw_956 {n sh T Ln i : Nat} {xs : Nat → Int32} {g : mm_M} (hs : sh < 3) (hn : n ≤ 12) (hn2 : 2 ≤ n) (hT : T < 1000000) (hi : i + 4 ≤ Ln) (hL : Ln ≤ 2050) (h : mm_LS n sh T g) : ∃ g', f_Lw_case956 n xs Ln g (nI i) = some g' ∧ mm_LS n sh (T + 1) g' := by
  obtain ⟨C, M, A, rfl, hR, hM, hP⟩ := h
  have e1 : ∀ {α : Type} (k : Option α), mm_ix (nI i + 1) Ln k = k := fun k => ixk (a := 1) (by omega) hL
  have e2 : ∀ {α : Type} (k : Option α), mm_ix (nI i + 2) Ln k = k := fun k => ixk (a := 2) (by omega) hL
  have e3 : ∀ {α : Type} (k : Option α), mm_ix (nI i + 3) Ln k = k := fun k => ixk (a := 3) (by omega) hL
  unfold f_Lw_case956 f_Lw_reader
  simp only [e1, e2, e3]
  have q := cs_i (ag_reader hn hR hP (xs (nI i + 1).toNatClampNeg) (xs (nI i + 2).toNatClampNeg) (xs (nI i + 3).toNatClampNeg)) hM _ es_1
  exact q
theorem lw_1036 {n sh T Ln i : Nat} {xs : Nat → Int32} {g : mm_M} (hs : sh < 3) (hn : n ≤ 12) (hn2 : 2 ≤ n) (hT : T < 1000000) (hi : i + 4 ≤ Ln) (hL : Ln ≤ 2050) (h : mm_LS n sh T g) : ∃ g', f_Lw_case1036 n xs Ln g (nI i) = some g' ∧ mm_LS n sh (T + 1) g' := by
  obtain ⟨C, M, A, rfl, hR, hM, hP⟩ := h
  have e1 : ∀ {α : Type} (k : Option α), mm_ix (nI i + 1) Ln k = k := fun k => ixk (a := 1) (by omega) hL
  have e2 : ∀ {α : Type} (k : Option α), mm_ix (nI i + 2) Ln k = k := fun k => ixk (a := 2) (by omega) hL
  have e3 : ∀ {α : Type} (k : Option α), mm_ix (nI i + 3) Ln k = k := fun k => ixk (a := 3) (by omega) hL
  unfold f_Lw_case1036 f_Lw_place
  simp only [e1, e2, e3]
  have q := cs_i (ag_place hR hP (xs (nI i + 1).toNatClampNeg)) hM _ es_1
  exact q
theorem lw_1092 {n sh T Ln i : Nat} {xs : Nat → Int32} {g : mm_M} (hs : sh < 3) (hn : n ≤ 12) (hn2 : 2 ≤ n) (hT : T < 1000000) (hi : i + 4 ≤ Ln) (hL : Ln ≤ 2050) (h : mm_LS n sh T g) : ∃ g', f_Lw_case1092 n xs Ln g (nI i) = some g' ∧ mm_LS n sh (T + 1) g' := by
  obtain ⟨C, M, A, rfl, hR, hM, hP⟩ := h
  have e1 : ∀ {α : Type} (k : Option α), mm_ix (nI i + 1) Ln k = k := fun k => ixk (a := 1) (by omega) hL
  have e2 : ∀ {α : Type} (k : Option α), mm_ix (nI i + 2) Ln k = k := fun k => ixk (a := 2) (by omega) hL
  have e3 : ∀ {α : Type} (k : Option α), mm_ix (nI i + 3) Ln k = k := fun k => ixk (a := 3) (by omega) hL
  unfold f_Lw_case1092 f_Lw_chain
  simp only [e1, e2, e3]
  have q := cs_i (ag_chain hn hR hP (xs (nI i + 1).toNatClampNeg) (xs (nI i + 2).toNatClampNeg)) hM _ es_1
  exact q
theorem lw_1160 {n sh T Ln i : Nat} {xs : Nat → Int32} {g : mm_M} (hs : sh < 3) (hn : n ≤ 12) (hn2 : 2 ≤ n) (hT : T < 1000000) (hi : i + 4 ≤ Ln) (hL : Ln ≤ 2050) (h : mm_LS n sh T g) : ∃ g', f_Lw_case1160 n xs Ln g (nI i) = some g' ∧ mm_LS n sh (T + 1) g' := by
  obtain ⟨C, M, A, rfl, hR, hM, hP⟩ := h
  have e1 : ∀ {α : Type} (k : Option α), mm_ix (nI i + 1) Ln k = k := fun k => ixk (a := 1) (by omega) hL
  have e2 : ∀ {α : Type} (k : Option α), mm_ix (nI i + 2) Ln k = k := fun k => ixk (a := 2) (by omega) hL
  have e3 : ∀ {α : Type} (k : Option α), mm_ix (nI i + 3) Ln k = k := fun k => ixk (a := 3) (by omega) hL
  unfold f_Lw_case1160 f_Lw_served
  simp only [e1, e2, e3]
  have q := cs_i (ag_served hR hP (xs (nI i + 1).toNatClampNeg) (xs (nI i + 2).toNatClampNeg)) hM _ es_1
  exact q
theorem lw_1228 {n sh T Ln i : Nat} {xs : Nat → Int32} {g : mm_M} (hs : sh < 3) (hn : n ≤ 12) (hn2 : 2 ≤ n) (hT : T < 1000000) (hi : i + 4 ≤ Ln) (hL : Ln ≤ 2050) (h : mm_LS n sh T g) : ∃ g', f_Lw_case1228 n xs Ln g (nI i) = some g' ∧ mm_LS n sh (T + 1) g' := by
  obtain ⟨C, M, A, rfl, hR, hM, hP⟩ := h
  have e1 : ∀ {α : Type} (k : Option α), mm_ix (nI i + 1) Ln k = k := fun k => ixk (a := 1) (by omega) hL
  have e2 : ∀ {α : Type} (k : Option α), mm_ix (nI i + 2) Ln k = k := fun k => ixk (a := 2) (by omega) hL
  have e3 : ∀ {α : Type} (k : Option α), mm_ix (nI i + 3) Ln k = k := fun k => ixk (a := 3) (by omega) hL
  unfold f_Lw_case1228 f_Lw_leads
  simp only [e1, e2, e3]
  have q := cs_b (ag_leads hs hn hn2 hR hP (xs (nI i + 1).toNatClampNeg) (xs (nI i + 2).toNatClampNeg)) hM _ es_3
  exact q
theorem lw_1303 {n sh T Ln i : Nat} {xs : Nat → Int32} {g : mm_M} (hs : sh < 3) (hn : n ≤ 12) (hn2 : 2 ≤ n) (hT : T < 1000000) (hi : i + 4 ≤ Ln) (hL : Ln ≤ 2050) (h : mm_LS n sh T g) : ∃ g', f_Lw_case1303 n xs Ln g (nI i) = some g' ∧ mm_LS n sh (T + 1) g' := by
  obtain ⟨C, M, A, rfl, hR, hM, hP⟩ := h
  unfold f_Lw_case1303
  have q := cs_0 (ag_quiet hn (Nat.le_of_lt hT) hR hP) hM
  exact q

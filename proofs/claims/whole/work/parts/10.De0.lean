def f_De_isFull_b13 (n : Nat) (g : mm_M) (t0 : Int32) : Option (Nat × Int32 × mm_M) :=
  mm_nz t0 (some (0, t0, g))
set_option maxRecDepth 100000 in
set_option maxHeartbeats 4000000 in
theorem w_De_isFull_b13 {p : Program} {l : Launch} {e : Env} {R : Room} {s : State} {m : MethodId} {args : Array Value} {below : List Frame} {meth : Method} {c : Code} {L : mm_L} {eo : Nat} {v : Int32} {g' : mm_M} {g : mm_M} {t0 : Int32} {H : Heap} {locs : List Loc} {ls : Array Slot} (hX : mm_X L prog_3_method_2_code 1 "LoanArrows$Desk" (some .boolean) 0 0 p l R s m meth c) (h : f_De_isFull_b13 L.1 g t0 = some (eo, v, g')) (hP : mm_P L g H) (hF : ∀ q ∈ locs, mm_F L q.base) (hl : lv_has ls 1 []) : W p l e R s m args below meth c H locs 0 0 (mm_Q below L s (mm_oi eo v) g') (F0 m 13 ls [.int t0]) := by
  have hX0 := hX
  obtain ⟨hx, hb, hml, hown, hr, hlk, hex, hRf, hRl, hRc, hRs, hJ, hK, hst, h00⟩ := hX0
  unfold f_De_isFull_b13 at h
  obtain ⟨hn, h⟩ := mm_nz_some h
  cases h
  exact mm_zret hx hb hr hn hlk hP hF d_De_isFull_13
def f_De_isFull (n : Nat) (g : mm_M) (r0 : Nat) : Option (Nat × Int32 × mm_M) :=
  (if (g 8 r0 1) = 4 then f_De_isFull_b13 n g 1 else f_De_isFull_b13 n g 0)
set_option maxRecDepth 100000 in
set_option maxHeartbeats 4000000 in
theorem w_De_isFull {p : Program} {l : Launch} {e : Env} {R : Room} {s : State} {m : MethodId} {args : Array Value} {below : List Frame} {meth : Method} {c : Code} {L : mm_L} {eo : Nat} {v : Int32} {g' : mm_M} {g : mm_M} {r0 : Nat} {H : Heap} {locs : List Loc} {ls : Array Slot} (hX : mm_X L prog_3_method_2_code 1 "LoanArrows$Desk" (some .boolean) 0 0 p l R s m meth c) (h : f_De_isFull L.1 g r0 = some (eo, v, g')) (hP : mm_P L g H) (hF : ∀ q ∈ locs, mm_F L q.base) (hl : lv_has ls 1 [(0, .ref (L.2.1 8 r0))]) (hv_r0 : mm_lv L.1 8 r0) : W p l e R s m args below meth c H locs 0 0 (mm_Q below L s (mm_oi eo v) g') (F0 m 0 ls []) := by
  have hX0 := hX
  obtain ⟨hx, hb, hml, hown, hr, hlk, hex, hRf, hRl, hRc, hRs, hJ, hK, hst, h00⟩ := hX0
  unfold f_De_isFull at h
  refine lv_aload_n hx hb d_De_isFull_0 rfl (lv_at hl 0 rfl) ?_
  refine mm_get (h := 8) (i := r0) 1 hX hP hv_r0 rfl rfl uin_8 (by decide) ⟨rfl, rfl, rfl⟩ wt_55 rfl d_De_isFull_1 ?_
  refine lv_iconst (v := 4) hx hb d_De_isFull_4 (by decide) ?_
  refine lv_icmp_ne (tgt := 12) hx hb d_De_isFull_5 rfl (fun hc => ?_) (fun hc => ?_)
  · have h := mm_neg hc h
    refine lv_iconst (v := 0) hx hb d_De_isFull_12 (by decide) ?_
    exact w_De_isFull_b13 hX h hP hF (lv_sub (l' := []) hl [] rfl)
  · have h := mm_pos hc h
    refine lv_iconst (v := 1) hx hb d_De_isFull_8 (by decide) ?_
    refine lv_goto (tgt := 13) hx hb d_De_isFull_9 rfl ?_
    exact w_De_isFull_b13 hX h hP hF (lv_sub (l' := []) hl [] rfl)
set_option maxRecDepth 100000 in
set_option maxHeartbeats 4000000 in
theorem c_De_isFull {l : Launch} {L : mm_L} {g g' : mm_M} {eo : Nat} {v : Int32} {r0 : Nat} (hv_r0 : mm_lv L.1 8 r0) (h : f_De_isFull L.1 g r0 = some (eo, v, g')) : mm_C l y_De_isFull prog_3_method_2_code 1 (some .boolean) 0 0 L [.ref (L.2.1 8 r0)] g (mm_oi eo v) g' := by
  intro p e R s m below meth c hX hP
  refine mm_enter (Nat.le_of_ble_eq_true rfl) fun ls hl => ?_
  exact w_De_isFull hX h hP (fun q hq => by cases hq) (lv_sub (l' := [(0, .ref (L.2.1 8 r0))]) hl [0] rfl) hv_r0
def f_De_hasInQueue_l2 (n : Nat) : Nat → mm_M → Nat → Int32 → Int32 → Option (Nat × Int32 × mm_M)
  | 0, _, _, _, _ => none
  | k + 1, g, r0, x1, x2 => (if (g 8 r0 1) ≤ x2 then mm_nz 0 (some (0, 0, g)) else mm_ix x2 4 ((if (g 9 r0 x2.toNatClampNeg) = x1 then mm_nz 1 (some (0, 1, g)) else f_De_hasInQueue_l2 n k g r0 x1 (x2 + 1))))
set_option maxRecDepth 100000 in
set_option maxHeartbeats 4000000 in
theorem w_De_hasInQueue_l2 {p : Program} {l : Launch} {e : Env} {R : Room} {s : State} {m : MethodId} {args : Array Value} {below : List Frame} {meth : Method} {c : Code} {L : mm_L} {eo : Nat} {v : Int32} {g' : mm_M} (hX : mm_X L prog_3_method_3_code 3 "LoanArrows$Desk" (some .boolean) 0 0 p l R s m meth c) : ∀ (k : Nat) (g : mm_M) (r0 : Nat) (x1 : Int32) (x2 : Int32) (H : Heap) (locs : List Loc) (ls : Array Slot), f_De_hasInQueue_l2 L.1 k g r0 x1 x2 = some (eo, v, g') → mm_P L g H → (∀ q ∈ locs, mm_F L q.base) → lv_has ls 3 [(0, .ref (L.2.1 8 r0)), (1, .int x1), (2, .int x2)] → mm_lv L.1 8 r0 → W p l e R s m args below meth c H locs 0 0 (mm_Q below L s (mm_oi eo v) g') (F0 m 2 ls []) := by
  have hX0 := hX
  obtain ⟨hx, hb, hml, hown, hr, hlk, hex, hRf, hRl, hRc, hRs, hJ, hK, hst, h00⟩ := hX0
  intro k
  induction k with
  | zero =>
    intro g r0 x1 x2 H locs ls h hP hF hl hv_r0
    rw [f_De_hasInQueue_l2] at h
    cases h
  | succ k ih =>
    intro g r0 x1 x2 H locs ls h hP hF hl hv_r0
    rw [f_De_hasInQueue_l2] at h
    refine lv_iload_n hx hb d_De_hasInQueue_2 rfl (lv_at hl 2 rfl) ?_
    refine lv_aload_n hx hb d_De_hasInQueue_3 rfl (lv_at hl 0 rfl) ?_
    refine mm_get (h := 8) (i := r0) 1 hX hP hv_r0 rfl rfl uin_8 (by decide) ⟨rfl, rfl, rfl⟩ wt_55 rfl d_De_hasInQueue_4 ?_
    refine lv_icmp_ge (tgt := 28) hx hb d_De_hasInQueue_7 rfl (fun hc => ?_) (fun hc => ?_)
    · have h := mm_pos hc h
      refine lv_iconst (v := 0) hx hb d_De_hasInQueue_28 (by decide) ?_
      obtain ⟨hn, h⟩ := mm_nz_some h
      cases h
      exact mm_zret hx hb hr hn hlk hP hF d_De_hasInQueue_29
    · have h := mm_neg hc h
      refine lv_aload_n hx hb d_De_hasInQueue_10 rfl (lv_at hl 0 rfl) ?_
      refine mm_get (h := 8) (i := r0) 0 hX hP hv_r0 rfl rfl uin_8 (by decide) ⟨rfl, rfl, rfl⟩ wt_54 rfl d_De_hasInQueue_11 ?_
      refine lv_iload_n hx hb d_De_hasInQueue_14 rfl (lv_at hl 2 rfl) ?_
      obtain ⟨hin, h⟩ := mm_ix_some h
      refine mm_iald (h := 9) (i := r0) hX hP hv_r0 (fun _ => rfl) rfl hin d_De_hasInQueue_15 ?_
      refine lv_iload_n hx hb d_De_hasInQueue_16 rfl (lv_at hl 1 rfl) ?_
      refine lv_icmp_ne (tgt := 22) hx hb d_De_hasInQueue_17 rfl (fun hc => ?_) (fun hc => ?_)
      · have h := mm_neg hc h
        refine lv_iinc (k := 2) (v := (x2 + 1)) hx hb d_De_hasInQueue_22 hl rfl (congrArg (fun z => x2 + z) mm_i1) (Nat.lt_of_lt_of_le (Nat.lt_succ_self _) (Nat.le_of_ble_eq_true rfl)) rfl (fun ls hl => ?_)
        have hl : lv_has ls 3 [(2, .int (x2 + 1)), (0, .ref (L.2.1 8 r0)), (1, .int x1)] := hl
        refine lv_goto (tgt := 2) hx hb d_De_hasInQueue_25 rfl ?_
        exact ih _ _ _ _ _ _ _ h hP hF (lv_sub (l' := [(0, .ref (L.2.1 8 r0)), (1, .int x1), (2, .int (x2 + 1))]) hl [1, 2, 0] rfl) hv_r0
      · have h := mm_pos hc h
        refine lv_iconst (v := 1) hx hb d_De_hasInQueue_20 (by decide) ?_
        obtain ⟨hn, h⟩ := mm_nz_some h
        cases h
        exact mm_zret hx hb hr hn hlk hP hF d_De_hasInQueue_21
def f_De_hasInQueue (n : Nat) (g : mm_M) (r0 : Nat) (x1 : Int32) : Option (Nat × Int32 × mm_M) :=
  f_De_hasInQueue_l2 n 4096 g r0 x1 0
set_option maxRecDepth 100000 in
set_option maxHeartbeats 4000000 in
theorem w_De_hasInQueue {p : Program} {l : Launch} {e : Env} {R : Room} {s : State} {m : MethodId} {args : Array Value} {below : List Frame} {meth : Method} {c : Code} {L : mm_L} {eo : Nat} {v : Int32} {g' : mm_M} {g : mm_M} {r0 : Nat} {x1 : Int32} {H : Heap} {locs : List Loc} {ls : Array Slot} (hX : mm_X L prog_3_method_3_code 3 "LoanArrows$Desk" (some .boolean) 0 0 p l R s m meth c) (h : f_De_hasInQueue L.1 g r0 x1 = some (eo, v, g')) (hP : mm_P L g H) (hF : ∀ q ∈ locs, mm_F L q.base) (hl : lv_has ls 3 [(0, .ref (L.2.1 8 r0)), (1, .int x1)]) (hv_r0 : mm_lv L.1 8 r0) : W p l e R s m args below meth c H locs 0 0 (mm_Q below L s (mm_oi eo v) g') (F0 m 0 ls []) := by
  have hX0 := hX
  obtain ⟨hx, hb, hml, hown, hr, hlk, hex, hRf, hRl, hRc, hRs, hJ, hK, hst, h00⟩ := hX0
  unfold f_De_hasInQueue at h
  refine lv_iconst (v := 0) hx hb d_De_hasInQueue_0 (by decide) ?_
  refine lv_istore_n hx hb d_De_hasInQueue_1 rfl hl (Nat.lt_of_lt_of_le (Nat.lt_succ_self _) (Nat.le_of_ble_eq_true rfl)) rfl (fun ls hl => ?_)
  have hl : lv_has ls 3 [(2, .int 0), (0, .ref (L.2.1 8 r0)), (1, .int x1)] := hl
  exact w_De_hasInQueue_l2 hX _ _ _ _ _ _ _ _ h hP hF (lv_sub (l' := [(0, .ref (L.2.1 8 r0)), (1, .int x1), (2, .int 0)]) hl [1, 2, 0] rfl) hv_r0
set_option maxRecDepth 100000 in
set_option maxHeartbeats 4000000 in
theorem c_De_hasInQueue {l : Launch} {L : mm_L} {g g' : mm_M} {eo : Nat} {v : Int32} {r0 : Nat} {x1 : Int32} (hv_r0 : mm_lv L.1 8 r0) (h : f_De_hasInQueue L.1 g r0 x1 = some (eo, v, g')) : mm_C l y_De_hasInQueue prog_3_method_3_code 3 (some .boolean) 0 0 L [.ref (L.2.1 8 r0), .int x1] g (mm_oi eo v) g' := by
  intro p e R s m below meth c hX hP
  refine mm_enter (Nat.le_of_ble_eq_true rfl) fun ls hl => ?_
  exact w_De_hasInQueue hX h hP (fun q hq => by cases hq) (lv_sub (l' := [(0, .ref (L.2.1 8 r0)), (1, .int x1)]) hl [0, 1] rfl) hv_r0
def f_De_queuedAt_b22 (n : Nat) (g : mm_M) (t0 : Int32) : Option (Nat × Int32 × mm_M) :=
  some (0, t0, g)
set_option maxRecDepth 100000 in
set_option maxHeartbeats 4000000 in
theorem w_De_queuedAt_b22 {p : Program} {l : Launch} {e : Env} {R : Room} {s : State} {m : MethodId} {args : Array Value} {below : List Frame} {meth : Method} {c : Code} {L : mm_L} {eo : Nat} {v : Int32} {g' : mm_M} {g : mm_M} {t0 : Int32} {H : Heap} {locs : List Loc} {ls : Array Slot} (hX : mm_X L prog_3_method_4_code 2 "LoanArrows$Desk" (some .int) 0 0 p l R s m meth c) (h : f_De_queuedAt_b22 L.1 g t0 = some (eo, v, g')) (hP : mm_P L g H) (hF : ∀ q ∈ locs, mm_F L q.base) (hl : lv_has ls 2 []) : W p l e R s m args below meth c H locs 0 0 (mm_Q below L s (mm_oi eo v) g') (F0 m 22 ls [.int t0]) := by
  have hX0 := hX
  obtain ⟨hx, hb, hml, hown, hr, hlk, hex, hRf, hRl, hRc, hRs, hJ, hK, hst, h00⟩ := hX0
  unfold f_De_queuedAt_b22 at h
  cases h
  exact mm_iret hx hb hr hlk hP hF d_De_queuedAt_22
def f_De_queuedAt_b21 (n : Nat) (g : mm_M)  : Option (Nat × Int32 × mm_M) :=
  f_De_queuedAt_b22 n g (-1)
set_option maxRecDepth 100000 in
set_option maxHeartbeats 4000000 in
theorem w_De_queuedAt_b21 {p : Program} {l : Launch} {e : Env} {R : Room} {s : State} {m : MethodId} {args : Array Value} {below : List Frame} {meth : Method} {c : Code} {L : mm_L} {eo : Nat} {v : Int32} {g' : mm_M} {g : mm_M} {H : Heap} {locs : List Loc} {ls : Array Slot} (hX : mm_X L prog_3_method_4_code 2 "LoanArrows$Desk" (some .int) 0 0 p l R s m meth c) (h : f_De_queuedAt_b21 L.1 g = some (eo, v, g')) (hP : mm_P L g H) (hF : ∀ q ∈ locs, mm_F L q.base) (hl : lv_has ls 2 []) : W p l e R s m args below meth c H locs 0 0 (mm_Q below L s (mm_oi eo v) g') (F0 m 21 ls []) := by
  have hX0 := hX
  obtain ⟨hx, hb, hml, hown, hr, hlk, hex, hRf, hRl, hRc, hRs, hJ, hK, hst, h00⟩ := hX0
  unfold f_De_queuedAt_b21 at h
  refine lv_iconst (v := -1) hx hb d_De_queuedAt_21 (by decide) ?_
  exact w_De_queuedAt_b22 hX h hP hF (lv_sub (l' := []) hl [] rfl)
def f_De_queuedAt (n : Nat) (g : mm_M) (r0 : Nat) (x1 : Int32) : Option (Nat × Int32 × mm_M) :=
  (if x1 < 0 then f_De_queuedAt_b21 n g else (if (g 8 r0 1) ≤ x1 then f_De_queuedAt_b21 n g else mm_ix x1 4 (f_De_queuedAt_b22 n g (g 9 r0 x1.toNatClampNeg))))
set_option maxRecDepth 100000 in
set_option maxHeartbeats 4000000 in
theorem w_De_queuedAt {p : Program} {l : Launch} {e : Env} {R : Room} {s : State} {m : MethodId} {args : Array Value} {below : List Frame} {meth : Method} {c : Code} {L : mm_L} {eo : Nat} {v : Int32} {g' : mm_M} {g : mm_M} {r0 : Nat} {x1 : Int32} {H : Heap} {locs : List Loc} {ls : Array Slot} (hX : mm_X L prog_3_method_4_code 2 "LoanArrows$Desk" (some .int) 0 0 p l R s m meth c) (h : f_De_queuedAt L.1 g r0 x1 = some (eo, v, g')) (hP : mm_P L g H) (hF : ∀ q ∈ locs, mm_F L q.base) (hl : lv_has ls 2 [(0, .ref (L.2.1 8 r0)), (1, .int x1)]) (hv_r0 : mm_lv L.1 8 r0) : W p l e R s m args below meth c H locs 0 0 (mm_Q below L s (mm_oi eo v) g') (F0 m 0 ls []) := by
  have hX0 := hX
  obtain ⟨hx, hb, hml, hown, hr, hlk, hex, hRf, hRl, hRc, hRs, hJ, hK, hst, h00⟩ := hX0
  unfold f_De_queuedAt at h
  refine lv_iload_n hx hb d_De_queuedAt_0 rfl (lv_at hl 1 rfl) ?_
  refine lv_if_lt (tgt := 21) hx hb d_De_queuedAt_1 rfl (fun hc => ?_) (fun hc => ?_)
  · have h := mm_pos hc h
    exact w_De_queuedAt_b21 hX h hP hF (lv_sub (l' := []) hl [] rfl)
  · have h := mm_neg hc h
    refine lv_iload_n hx hb d_De_queuedAt_4 rfl (lv_at hl 1 rfl) ?_
    refine lv_aload_n hx hb d_De_queuedAt_5 rfl (lv_at hl 0 rfl) ?_
    refine mm_get (h := 8) (i := r0) 1 hX hP hv_r0 rfl rfl uin_8 (by decide) ⟨rfl, rfl, rfl⟩ wt_55 rfl d_De_queuedAt_6 ?_
    refine lv_icmp_ge (tgt := 21) hx hb d_De_queuedAt_9 rfl (fun hc => ?_) (fun hc => ?_)
    · have h := mm_pos hc h
      exact w_De_queuedAt_b21 hX h hP hF (lv_sub (l' := []) hl [] rfl)
    · have h := mm_neg hc h
      refine lv_aload_n hx hb d_De_queuedAt_12 rfl (lv_at hl 0 rfl) ?_
      refine mm_get (h := 8) (i := r0) 0 hX hP hv_r0 rfl rfl uin_8 (by decide) ⟨rfl, rfl, rfl⟩ wt_54 rfl d_De_queuedAt_13 ?_
      refine lv_iload_n hx hb d_De_queuedAt_16 rfl (lv_at hl 1 rfl) ?_
      obtain ⟨hin, h⟩ := mm_ix_some h
      refine mm_iald (h := 9) (i := r0) hX hP hv_r0 (fun _ => rfl) rfl hin d_De_queuedAt_17 ?_
      refine lv_goto (tgt := 22) hx hb d_De_queuedAt_18 rfl ?_
      exact w_De_queuedAt_b22 hX h hP hF (lv_sub (l' := []) hl [] rfl)
set_option maxRecDepth 100000 in
set_option maxHeartbeats 4000000 in
theorem c_De_queuedAt {l : Launch} {L : mm_L} {g g' : mm_M} {eo : Nat} {v : Int32} {r0 : Nat} {x1 : Int32} (hv_r0 : mm_lv L.1 8 r0) (h : f_De_queuedAt L.1 g r0 x1 = some (eo, v, g')) : mm_C l y_De_queuedAt prog_3_method_4_code 2 (some .int) 0 0 L [.ref (L.2.1 8 r0), .int x1] g (mm_oi eo v) g' := by
  intro p e R s m below meth c hX hP
  refine mm_enter (Nat.le_of_ble_eq_true rfl) fun ls hl => ?_
  exact w_De_queuedAt hX h hP (fun q hq => by cases hq) (lv_sub (l' := [(0, .ref (L.2.1 8 r0)), (1, .int x1)]) hl [0, 1] rfl) hv_r0
def f_De_enqueue_b28 (n : Nat) (g : mm_M)  : Option (Nat × Int32 × mm_M) :=
  some (0, 0, g)
set_option maxRecDepth 100000 in
set_option maxHeartbeats 4000000 in
theorem w_De_enqueue_b28 {p : Program} {l : Launch} {e : Env} {R : Room} {s : State} {m : MethodId} {args : Array Value} {below : List Frame} {meth : Method} {c : Code} {L : mm_L} {eo : Nat} {v : Int32} {g' : mm_M} {g : mm_M} {H : Heap} {locs : List Loc} {ls : Array Slot} (hX : mm_X L prog_3_method_5_code 2 "LoanArrows$Desk" none 0 0 p l R s m meth c) (h : f_De_enqueue_b28 L.1 g = some (eo, v, g')) (hP : mm_P L g H) (hF : ∀ q ∈ locs, mm_F L q.base) (hl : lv_has ls 2 []) : W p l e R s m args below meth c H locs 0 0 (mm_Q below L s (mm_ov eo v) g') (F0 m 28 ls []) := by
  have hX0 := hX
  obtain ⟨hx, hb, hml, hown, hr, hlk, hex, hRf, hRl, hRc, hRs, hJ, hK, hst, h00⟩ := hX0
  unfold f_De_enqueue_b28 at h
  cases h
  exact mm_vret hx hb hr hlk hP hF d_De_enqueue_28
def f_De_enqueue (n : Nat) (g : mm_M) (r0 : Nat) (x1 : Int32) : Option (Nat × Int32 × mm_M) :=
  (if 4 ≤ (g 8 r0 1) then f_De_enqueue_b28 n g else mm_ix (g 8 r0 1) 4 (mm_let (mm_st g 9 r0 (g 8 r0 1).toNatClampNeg x1) (fun g1 => mm_let (mm_st g1 8 r0 1 ((g1 8 r0 1) + 1)) (fun g3 => f_De_enqueue_b28 n g3))))
set_option maxRecDepth 100000 in
set_option maxHeartbeats 4000000 in
theorem w_De_enqueue {p : Program} {l : Launch} {e : Env} {R : Room} {s : State} {m : MethodId} {args : Array Value} {below : List Frame} {meth : Method} {c : Code} {L : mm_L} {eo : Nat} {v : Int32} {g' : mm_M} {g : mm_M} {r0 : Nat} {x1 : Int32} {H : Heap} {locs : List Loc} {ls : Array Slot} (hX : mm_X L prog_3_method_5_code 2 "LoanArrows$Desk" none 0 0 p l R s m meth c) (h : f_De_enqueue L.1 g r0 x1 = some (eo, v, g')) (hP : mm_P L g H) (hF : ∀ q ∈ locs, mm_F L q.base) (hl : lv_has ls 2 [(0, .ref (L.2.1 8 r0)), (1, .int x1)]) (hv_r0 : mm_lv L.1 8 r0) : W p l e R s m args below meth c H locs 0 0 (mm_Q below L s (mm_ov eo v) g') (F0 m 0 ls []) := by
  have hX0 := hX
  obtain ⟨hx, hb, hml, hown, hr, hlk, hex, hRf, hRl, hRc, hRs, hJ, hK, hst, h00⟩ := hX0
  unfold f_De_enqueue at h
  refine lv_aload_n hx hb d_De_enqueue_0 rfl (lv_at hl 0 rfl) ?_
  refine mm_get (h := 8) (i := r0) 1 hX hP hv_r0 rfl rfl uin_8 (by decide) ⟨rfl, rfl, rfl⟩ wt_55 rfl d_De_enqueue_1 ?_
  refine lv_iconst (v := 4) hx hb d_De_enqueue_4 (by decide) ?_
  refine lv_icmp_ge (tgt := 28) hx hb d_De_enqueue_5 rfl (fun hc => ?_) (fun hc => ?_)
  · have h := mm_pos hc h
    exact w_De_enqueue_b28 hX h hP hF (lv_sub (l' := []) hl [] rfl)
  · have h := mm_neg hc h
    refine lv_aload_n hx hb d_De_enqueue_8 rfl (lv_at hl 0 rfl) ?_
    refine mm_get (h := 8) (i := r0) 0 hX hP hv_r0 rfl rfl uin_8 (by decide) ⟨rfl, rfl, rfl⟩ wt_54 rfl d_De_enqueue_9 ?_
    refine lv_aload_n hx hb d_De_enqueue_12 rfl (lv_at hl 0 rfl) ?_
    refine mm_get (h := 8) (i := r0) 1 hX hP hv_r0 rfl rfl uin_8 (by decide) ⟨rfl, rfl, rfl⟩ wt_55 rfl d_De_enqueue_13 ?_
    refine lv_iload_n hx hb d_De_enqueue_16 rfl (lv_at hl 1 rfl) ?_
    obtain ⟨hin, h⟩ := mm_ix_some h
    refine mm_iast (h := 9) (i := r0) hX hP hF hv_r0 (fun _ => rfl) rfl hin d_De_enqueue_17 (fun H locs hP hF => ?_)
    obtain ⟨g1, e2, h⟩ := mm_let_ex h
    have hP : mm_P L g1 H := by rw [e2]; exact hP
    refine lv_aload_n hx hb d_De_enqueue_18 rfl (lv_at hl 0 rfl) ?_
    refine lv_dup hx hb d_De_enqueue_19 rfl ?_
    refine mm_get (h := 8) (i := r0) 1 hX hP hv_r0 rfl rfl uin_8 (by decide) ⟨rfl, rfl, rfl⟩ wt_55 rfl d_De_enqueue_20 ?_
    refine lv_iconst (v := 1) hx hb d_De_enqueue_23 (by decide) ?_
    refine lv_iadd hx hb d_De_enqueue_24 ?_
    refine mm_put (h := 8) (i := r0) 1 hX hP hF hv_r0 rfl rfl rfl uin_8 ty_8 tyok_8 nmok_8 (by decide) ⟨rfl, rfl, rfl⟩ rfl wt_55 rfl rfl rfl (Nat.le_of_ble_eq_true rfl) d_De_enqueue_25 (fun H locs hP hF => ?_)
    obtain ⟨g3, e4, h⟩ := mm_let_ex h
    have hP : mm_P L g3 H := by rw [e4]; exact hP
    exact w_De_enqueue_b28 hX h hP hF (lv_sub (l' := []) hl [] rfl)
set_option maxRecDepth 100000 in
set_option maxHeartbeats 4000000 in
theorem c_De_enqueue {l : Launch} {L : mm_L} {g g' : mm_M} {eo : Nat} {v : Int32} {r0 : Nat} {x1 : Int32} (hv_r0 : mm_lv L.1 8 r0) (h : f_De_enqueue L.1 g r0 x1 = some (eo, v, g')) : mm_C l y_De_enqueue prog_3_method_5_code 2 none 0 0 L [.ref (L.2.1 8 r0), .int x1] g (mm_ov eo v) g' := by
  intro p e R s m below meth c hX hP
  refine mm_enter (Nat.le_of_ble_eq_true rfl) fun ls hl => ?_
  exact w_De_enqueue hX h hP (fun q hq => by cases hq) (lv_sub (l' := [(0, .ref (L.2.1 8 r0)), (1, .int x1)]) hl [0, 1] rfl) hv_r0
def f_De_dequeue_l8 (n : Nat) : Nat → mm_M → Nat → Int32 → Int32 → Option (Nat × Int32 × mm_M)
  | 0, _, _, _, _ => none
  | k + 1, g, r0, x1, x2 => (if (g 8 r0 1) ≤ x2 then mm_let (mm_st g 8 r0 1 (if 0 < ((g 8 r0 1) - 1) then ((g 8 r0 1) - 1) else 0)) (fun g1 => some (0, x1, g1)) else mm_ix x2 4 (mm_ix (x2 - 1) 4 (mm_let (mm_st g 9 r0 (x2 - 1).toNatClampNeg (g 9 r0 x2.toNatClampNeg)) (fun g3 => f_De_dequeue_l8 n k g3 r0 x1 (x2 + 1)))))
set_option maxRecDepth 100000 in
set_option maxHeartbeats 4000000 in
theorem w_De_dequeue_l8 {p : Program} {l : Launch} {e : Env} {R : Room} {s : State} {m : MethodId} {args : Array Value} {below : List Frame} {meth : Method} {c : Code} {L : mm_L} {eo : Nat} {v : Int32} {g' : mm_M} (hX : mm_X L prog_3_method_6_code 3 "LoanArrows$Desk" (some .int) 1 40 p l R s m meth c) : ∀ (k : Nat) (g : mm_M) (r0 : Nat) (x1 : Int32) (x2 : Int32) (H : Heap) (locs : List Loc) (ls : Array Slot), f_De_dequeue_l8 L.1 k g r0 x1 x2 = some (eo, v, g') → mm_P L g H → (∀ q ∈ locs, mm_F L q.base) → lv_has ls 3 [(0, .ref (L.2.1 8 r0)), (1, .int x1), (2, .int x2)] → mm_lv L.1 8 r0 → W p l e R s m args below meth c H locs 0 0 (mm_Q below L s (mm_oi eo v) g') (F0 m 8 ls []) := by
  have hX0 := hX
  obtain ⟨hx, hb, hml, hown, hr, hlk, hex, hRf, hRl, hRc, hRs, hJ, hK, hst, h00⟩ := hX0
  intro k
  induction k with
  | zero =>
    intro g r0 x1 x2 H locs ls h hP hF hl hv_r0
    rw [f_De_dequeue_l8] at h
    cases h
  | succ k ih =>
    intro g r0 x1 x2 H locs ls h hP hF hl hv_r0
    rw [f_De_dequeue_l8] at h
    refine lv_iload_n hx hb d_De_dequeue_8 rfl (lv_at hl 2 rfl) ?_
    refine lv_aload_n hx hb d_De_dequeue_9 rfl (lv_at hl 0 rfl) ?_
    refine mm_get (h := 8) (i := r0) 1 hX hP hv_r0 rfl rfl uin_8 (by decide) ⟨rfl, rfl, rfl⟩ wt_55 rfl d_De_dequeue_10 ?_
    refine lv_icmp_ge (tgt := 36) hx hb d_De_dequeue_13 rfl (fun hc => ?_) (fun hc => ?_)
    · have h := mm_pos hc h
      refine lv_aload_n hx hb d_De_dequeue_36 rfl (lv_at hl 0 rfl) ?_
      refine lv_iconst (v := 0) hx hb d_De_dequeue_37 (by decide) ?_
      refine lv_aload_n hx hb d_De_dequeue_38 rfl (lv_at hl 0 rfl) ?_
      refine mm_get (h := 8) (i := r0) 1 hX hP hv_r0 rfl rfl uin_8 (by decide) ⟨rfl, rfl, rfl⟩ wt_55 rfl d_De_dequeue_39 ?_
      refine lv_iconst (v := 1) hx hb d_De_dequeue_42 (by decide) ?_
      refine lv_isub hx hb d_De_dequeue_43 ?_
      refine mm_mmax hX wt_410 wt_411 wt_15 wt_412 hl.1 (by decide) (Nat.le_of_ble_eq_true rfl) d_De_dequeue_44 ?_
      refine mm_put (h := 8) (i := r0) 1 hX hP hF hv_r0 rfl rfl rfl uin_8 ty_8 tyok_8 nmok_8 (by decide) ⟨rfl, rfl, rfl⟩ rfl wt_55 rfl rfl rfl (Nat.le_of_ble_eq_true rfl) d_De_dequeue_47 (fun H locs hP hF => ?_)
      obtain ⟨g1, e2, h⟩ := mm_let_ex h
      have hP : mm_P L g1 H := by rw [e2]; exact hP
      refine lv_iload_n hx hb d_De_dequeue_50 rfl (lv_at hl 1 rfl) ?_
      cases h
      exact mm_iret hx hb hr hlk hP hF d_De_dequeue_51
    · have h := mm_neg hc h
      refine lv_aload_n hx hb d_De_dequeue_16 rfl (lv_at hl 0 rfl) ?_
      refine mm_get (h := 8) (i := r0) 0 hX hP hv_r0 rfl rfl uin_8 (by decide) ⟨rfl, rfl, rfl⟩ wt_54 rfl d_De_dequeue_17 ?_
      refine lv_iload_n hx hb d_De_dequeue_20 rfl (lv_at hl 2 rfl) ?_
      refine lv_iconst (v := 1) hx hb d_De_dequeue_21 (by decide) ?_
      refine lv_isub hx hb d_De_dequeue_22 ?_
      refine lv_aload_n hx hb d_De_dequeue_23 rfl (lv_at hl 0 rfl) ?_
      refine mm_get (h := 8) (i := r0) 0 hX hP hv_r0 rfl rfl uin_8 (by decide) ⟨rfl, rfl, rfl⟩ wt_54 rfl d_De_dequeue_24 ?_
      refine lv_iload_n hx hb d_De_dequeue_27 rfl (lv_at hl 2 rfl) ?_
      obtain ⟨hin, h⟩ := mm_ix_some h
      refine mm_iald (h := 9) (i := r0) hX hP hv_r0 (fun _ => rfl) rfl hin d_De_dequeue_28 ?_
      obtain ⟨hin, h⟩ := mm_ix_some h
      refine mm_iast (h := 9) (i := r0) hX hP hF hv_r0 (fun _ => rfl) rfl hin d_De_dequeue_29 (fun H locs hP hF => ?_)
      obtain ⟨g3, e4, h⟩ := mm_let_ex h
      have hP : mm_P L g3 H := by rw [e4]; exact hP
      refine lv_iinc (k := 2) (v := (x2 + 1)) hx hb d_De_dequeue_30 hl rfl (congrArg (fun z => x2 + z) mm_i1) (Nat.lt_of_lt_of_le (Nat.lt_succ_self _) (Nat.le_of_ble_eq_true rfl)) rfl (fun ls hl => ?_)
      have hl : lv_has ls 3 [(2, .int (x2 + 1)), (0, .ref (L.2.1 8 r0)), (1, .int x1)] := hl
      refine lv_goto (tgt := 8) hx hb d_De_dequeue_33 rfl ?_
      exact ih _ _ _ _ _ _ _ h hP hF (lv_sub (l' := [(0, .ref (L.2.1 8 r0)), (1, .int x1), (2, .int (x2 + 1))]) hl [1, 2, 0] rfl) hv_r0
def f_De_dequeue (n : Nat) (g : mm_M) (r0 : Nat) : Option (Nat × Int32 × mm_M) :=
  mm_bd (f_De_queuedAt n g r0 0) 0 (fun z1 g2 => f_De_dequeue_l8 n 4096 g2 r0 z1 1)
set_option maxRecDepth 100000 in
set_option maxHeartbeats 4000000 in
theorem w_De_dequeue {p : Program} {l : Launch} {e : Env} {R : Room} {s : State} {m : MethodId} {args : Array Value} {below : List Frame} {meth : Method} {c : Code} {L : mm_L} {eo : Nat} {v : Int32} {g' : mm_M} {g : mm_M} {r0 : Nat} {H : Heap} {locs : List Loc} {ls : Array Slot} (hX : mm_X L prog_3_method_6_code 3 "LoanArrows$Desk" (some .int) 1 40 p l R s m meth c) (h : f_De_dequeue L.1 g r0 = some (eo, v, g')) (hP : mm_P L g H) (hF : ∀ q ∈ locs, mm_F L q.base) (hl : lv_has ls 3 [(0, .ref (L.2.1 8 r0))]) (hv_r0 : mm_lv L.1 8 r0) : W p l e R s m args below meth c H locs 0 0 (mm_Q below L s (mm_oi eo v) g') (F0 m 0 ls []) := by
  have hX0 := hX
  obtain ⟨hx, hb, hml, hown, hr, hlk, hex, hRf, hRl, hRc, hRs, hJ, hK, hst, h00⟩ := hX0
  unfold f_De_dequeue at h
  refine lv_aload_n hx hb d_De_dequeue_0 rfl (lv_at hl 0 rfl) ?_
  refine lv_iconst (v := 0) hx hb d_De_dequeue_1 (by decide) ?_
  rcases mm_bd_some h with ⟨z1, g2, hf3, h⟩ | ⟨xe, z1, g2, hf3, h⟩
  · refine mm_goR (v := (some (.int z1))) (mm_goV (As := [.int 0]) (rest := []) hX (c_De_queuedAt hv_r0 hf3) yw_De_queuedAt wt_406 wt_407 wt_408 hP hF (mm_recv (h := 8) (i := r0) hX hP hv_r0 rfl rfl) rfl hl.1 (Nat.le_of_ble_eq_true rfl) (by decide) (by decide) hRc hRs d_De_dequeue_2) hF (fun H locs hP hF _ => ?_)
    refine lv_istore_n hx hb d_De_dequeue_5 rfl hl (Nat.lt_of_lt_of_le (Nat.lt_succ_self _) (Nat.le_of_ble_eq_true rfl)) rfl (fun ls hl => ?_)
    have hl : lv_has ls 3 [(1, .int z1), (0, .ref (L.2.1 8 r0))] := hl
    refine lv_iconst (v := 1) hx hb d_De_dequeue_6 (by decide) ?_
    refine lv_istore_n hx hb d_De_dequeue_7 rfl hl (Nat.lt_of_lt_of_le (Nat.lt_succ_self _) (Nat.le_of_ble_eq_true rfl)) rfl (fun ls hl => ?_)
    have hl : lv_has ls 3 [(2, .int 1), (1, .int z1), (0, .ref (L.2.1 8 r0))] := hl
    exact w_De_dequeue_l8 hX _ _ _ _ _ _ _ _ h hP hF (lv_sub (l' := [(0, .ref (L.2.1 8 r0)), (1, .int z1), (2, .int 1)]) hl [2, 1, 0] rfl) hv_r0
  · cases h
    exact mm_goT (x := xe + 1) (mm_goV (As := [.int 0]) (rest := []) hX (c_De_queuedAt hv_r0 hf3) yw_De_queuedAt wt_406 wt_407 wt_408 hP hF (mm_recv (h := 8) (i := r0) hX hP hv_r0 rfl rfl) rfl hl.1 (Nat.le_of_ble_eq_true rfl) (by decide) (by decide) hRc hRs d_De_dequeue_2) hF hex hlk
set_option maxRecDepth 100000 in
set_option maxHeartbeats 4000000 in
theorem c_De_dequeue {l : Launch} {L : mm_L} {g g' : mm_M} {eo : Nat} {v : Int32} {r0 : Nat} (hv_r0 : mm_lv L.1 8 r0) (h : f_De_dequeue L.1 g r0 = some (eo, v, g')) : mm_C l y_De_dequeue prog_3_method_6_code 3 (some .int) 1 40 L [.ref (L.2.1 8 r0)] g (mm_oi eo v) g' := by
  intro p e R s m below meth c hX hP
  refine mm_enter (Nat.le_of_ble_eq_true rfl) fun ls hl => ?_
  exact w_De_dequeue hX h hP (fun q hq => by cases hq) (lv_sub (l' := [(0, .ref (L.2.1 8 r0))]) hl [0] rfl) hv_r0

def f_Tr_parentByShape_b22 (n : Nat) (g : mm_M) (t0 : Int32) : Option (Nat × Int32 × mm_M) :=
  some (0, t0, g)
set_option maxRecDepth 100000 in
set_option maxHeartbeats 4000000 in
theorem w_Tr_parentByShape_b22 {p : Program} {l : Launch} {e : Env} {R : Room} {s : State} {m : MethodId} {args : Array Value} {below : List Frame} {meth : Method} {c : Code} {L : mm_L} {eo : Nat} {v : Int32} {g' : mm_M} {g : mm_M} {t0 : Int32} {H : Heap} {locs : List Loc} {ls : Array Slot} (hX : mm_X L prog_7_method_2_code 2 "LoanArrows$Tree" (some .int) 0 0 p l R s m meth c) (h : f_Tr_parentByShape_b22 L.1 g t0 = some (eo, v, g')) (hP : mm_P L g H) (hF : ∀ q ∈ locs, mm_F L q.base) (hl : lv_has ls 2 []) : W p l e R s m args below meth c H locs 0 0 (mm_Q below L s (mm_oi eo v) g') (F0 m 22 ls [.int t0]) := by
  have hX0 := hX
  obtain ⟨hx, hb, hml, hown, hr, hlk, hex, hRf, hRl, hRc, hRs, hJ, hK, hst, h00⟩ := hX0
  unfold f_Tr_parentByShape_b22 at h
  cases h
  exact mm_iret hx hb hr hlk hP hF d_Tr_parentByShape_22
def f_Tr_parentByShape (n : Nat) (g : mm_M) (x0 : Int32) (x1 : Int32) : Option (Nat × Int32 × mm_M) :=
  (if x1 = 0 then some (0, ((x0 - 1) / 2), g) else (if x1 = 1 then f_Tr_parentByShape_b22 n g (x0 - 1) else f_Tr_parentByShape_b22 n g 0))
set_option maxRecDepth 100000 in
set_option maxHeartbeats 4000000 in
theorem w_Tr_parentByShape {p : Program} {l : Launch} {e : Env} {R : Room} {s : State} {m : MethodId} {args : Array Value} {below : List Frame} {meth : Method} {c : Code} {L : mm_L} {eo : Nat} {v : Int32} {g' : mm_M} {g : mm_M} {x0 : Int32} {x1 : Int32} {H : Heap} {locs : List Loc} {ls : Array Slot} (hX : mm_X L prog_7_method_2_code 2 "LoanArrows$Tree" (some .int) 0 0 p l R s m meth c) (h : f_Tr_parentByShape L.1 g x0 x1 = some (eo, v, g')) (hP : mm_P L g H) (hF : ∀ q ∈ locs, mm_F L q.base) (hl : lv_has ls 2 [(0, .int x0), (1, .int x1)]) : W p l e R s m args below meth c H locs 0 0 (mm_Q below L s (mm_oi eo v) g') (F0 m 0 ls []) := by
  have hX0 := hX
  obtain ⟨hx, hb, hml, hown, hr, hlk, hex, hRf, hRl, hRc, hRs, hJ, hK, hst, h00⟩ := hX0
  unfold f_Tr_parentByShape at h
  refine lv_iload_n hx hb d_Tr_parentByShape_0 rfl (lv_at hl 1 rfl) ?_
  refine lv_if_ne (tgt := 10) hx hb d_Tr_parentByShape_1 rfl (fun hc => ?_) (fun hc => ?_)
  · have h := mm_neg hc h
    refine lv_iload_n hx hb d_Tr_parentByShape_10 rfl (lv_at hl 1 rfl) ?_
    refine lv_iconst (v := 1) hx hb d_Tr_parentByShape_11 (by decide) ?_
    refine lv_icmp_ne (tgt := 21) hx hb d_Tr_parentByShape_12 rfl (fun hc => ?_) (fun hc => ?_)
    · have h := mm_neg hc h
      refine lv_iconst (v := 0) hx hb d_Tr_parentByShape_21 (by decide) ?_
      exact w_Tr_parentByShape_b22 hX h hP hF (lv_sub (l' := []) hl [] rfl)
    · have h := mm_pos hc h
      refine lv_iload_n hx hb d_Tr_parentByShape_15 rfl (lv_at hl 0 rfl) ?_
      refine lv_iconst (v := 1) hx hb d_Tr_parentByShape_16 (by decide) ?_
      refine lv_isub hx hb d_Tr_parentByShape_17 ?_
      refine lv_goto (tgt := 22) hx hb d_Tr_parentByShape_18 rfl ?_
      exact w_Tr_parentByShape_b22 hX h hP hF (lv_sub (l' := []) hl [] rfl)
  · have h := mm_pos hc h
    refine lv_iload_n hx hb d_Tr_parentByShape_4 rfl (lv_at hl 0 rfl) ?_
    refine lv_iconst (v := 1) hx hb d_Tr_parentByShape_5 (by decide) ?_
    refine lv_isub hx hb d_Tr_parentByShape_6 ?_
    refine lv_iconst (v := 2) hx hb d_Tr_parentByShape_7 (by decide) ?_
    refine lv_idiv hx hb d_Tr_parentByShape_8 (by decide) ?_
    cases h
    exact mm_iret hx hb hr hlk hP hF d_Tr_parentByShape_9
set_option maxRecDepth 100000 in
set_option maxHeartbeats 4000000 in
theorem c_Tr_parentByShape {l : Launch} {L : mm_L} {g g' : mm_M} {eo : Nat} {v : Int32} {x0 : Int32} {x1 : Int32} (h : f_Tr_parentByShape L.1 g x0 x1 = some (eo, v, g')) : mm_C l y_Tr_parentByShape prog_7_method_2_code 2 (some .int) 0 0 L [.int x0, .int x1] g (mm_oi eo v) g' := by
  intro p e R s m below meth c hX hP
  refine mm_enter (Nat.le_of_ble_eq_true rfl) fun ls hl => ?_
  exact w_Tr_parentByShape hX h hP (fun q hq => by cases hq) (lv_sub (l' := [(0, .int x0), (1, .int x1)]) hl [0, 1] rfl)
def f_Tr_isParent_b15 (n : Nat) (g : mm_M) (t0 : Int32) : Option (Nat × Int32 × mm_M) :=
  mm_nz t0 (some (0, t0, g))
set_option maxRecDepth 100000 in
set_option maxHeartbeats 4000000 in
theorem w_Tr_isParent_b15 {p : Program} {l : Launch} {e : Env} {R : Room} {s : State} {m : MethodId} {args : Array Value} {below : List Frame} {meth : Method} {c : Code} {L : mm_L} {eo : Nat} {v : Int32} {g' : mm_M} {g : mm_M} {t0 : Int32} {H : Heap} {locs : List Loc} {ls : Array Slot} (hX : mm_X L prog_7_method_3_code 3 "LoanArrows$Tree" (some .boolean) 0 0 p l R s m meth c) (h : f_Tr_isParent_b15 L.1 g t0 = some (eo, v, g')) (hP : mm_P L g H) (hF : ∀ q ∈ locs, mm_F L q.base) (hl : lv_has ls 3 []) : W p l e R s m args below meth c H locs 0 0 (mm_Q below L s (mm_oi eo v) g') (F0 m 15 ls [.int t0]) := by
  have hX0 := hX
  obtain ⟨hx, hb, hml, hown, hr, hlk, hex, hRf, hRl, hRc, hRs, hJ, hK, hst, h00⟩ := hX0
  unfold f_Tr_isParent_b15 at h
  obtain ⟨hn, h⟩ := mm_nz_some h
  cases h
  exact mm_zret hx hb hr hn hlk hP hF d_Tr_isParent_15
def f_Tr_isParent (n : Nat) (g : mm_M) (r0 : Nat) (x1 : Int32) (x2 : Int32) : Option (Nat × Int32 × mm_M) :=
  mm_ix x2 n ((if (g 3 0 x2.toNatClampNeg) = x1 then f_Tr_isParent_b15 n g 1 else f_Tr_isParent_b15 n g 0))
set_option maxRecDepth 100000 in
set_option maxHeartbeats 4000000 in
theorem w_Tr_isParent {p : Program} {l : Launch} {e : Env} {R : Room} {s : State} {m : MethodId} {args : Array Value} {below : List Frame} {meth : Method} {c : Code} {L : mm_L} {eo : Nat} {v : Int32} {g' : mm_M} {g : mm_M} {r0 : Nat} {x1 : Int32} {x2 : Int32} {H : Heap} {locs : List Loc} {ls : Array Slot} (hX : mm_X L prog_7_method_3_code 3 "LoanArrows$Tree" (some .boolean) 0 0 p l R s m meth c) (h : f_Tr_isParent L.1 g r0 x1 x2 = some (eo, v, g')) (hP : mm_P L g H) (hF : ∀ q ∈ locs, mm_F L q.base) (hl : lv_has ls 3 [(0, .ref (L.2.1 2 r0)), (1, .int x1), (2, .int x2)]) (hv_r0 : mm_lv L.1 2 r0) : W p l e R s m args below meth c H locs 0 0 (mm_Q below L s (mm_oi eo v) g') (F0 m 0 ls []) := by
  have hX0 := hX
  obtain ⟨hx, hb, hml, hown, hr, hlk, hex, hRf, hRl, hRc, hRs, hJ, hK, hst, h00⟩ := hX0
  unfold f_Tr_isParent at h
  refine lv_aload_n hx hb d_Tr_isParent_0 rfl (lv_at hl 0 rfl) ?_
  refine mm_get (h := 2) (i := r0) 0 hX hP hv_r0 rfl rfl uin_2 (by decide) ⟨rfl, rfl, rfl⟩ wt_34 rfl d_Tr_isParent_1 ?_
  refine lv_iload_n hx hb d_Tr_isParent_4 rfl (lv_at hl 2 rfl) ?_
  obtain ⟨hin, h⟩ := mm_ix_some h
  refine mm_iald (h := 3) (i := 0) hX hP mm_ls3 (fun _ => rfl) rfl hin d_Tr_isParent_5 ?_
  refine lv_iload_n hx hb d_Tr_isParent_6 rfl (lv_at hl 1 rfl) ?_
  refine lv_icmp_ne (tgt := 14) hx hb d_Tr_isParent_7 rfl (fun hc => ?_) (fun hc => ?_)
  · have h := mm_neg hc h
    refine lv_iconst (v := 0) hx hb d_Tr_isParent_14 (by decide) ?_
    exact w_Tr_isParent_b15 hX h hP hF (lv_sub (l' := []) hl [] rfl)
  · have h := mm_pos hc h
    refine lv_iconst (v := 1) hx hb d_Tr_isParent_10 (by decide) ?_
    refine lv_goto (tgt := 15) hx hb d_Tr_isParent_11 rfl ?_
    exact w_Tr_isParent_b15 hX h hP hF (lv_sub (l' := []) hl [] rfl)
set_option maxRecDepth 100000 in
set_option maxHeartbeats 4000000 in
theorem c_Tr_isParent {l : Launch} {L : mm_L} {g g' : mm_M} {eo : Nat} {v : Int32} {r0 : Nat} {x1 : Int32} {x2 : Int32} (hv_r0 : mm_lv L.1 2 r0) (h : f_Tr_isParent L.1 g r0 x1 x2 = some (eo, v, g')) : mm_C l y_Tr_isParent prog_7_method_3_code 3 (some .boolean) 0 0 L [.ref (L.2.1 2 r0), .int x1, .int x2] g (mm_oi eo v) g' := by
  intro p e R s m below meth c hX hP
  refine mm_enter (Nat.le_of_ble_eq_true rfl) fun ls hl => ?_
  exact w_Tr_isParent hX h hP (fun q hq => by cases hq) (lv_sub (l' := [(0, .ref (L.2.1 2 r0)), (1, .int x1), (2, .int x2)]) hl [0, 1, 2] rfl) hv_r0
def f_Tr_areNeighbours_b23 (n : Nat) (g : mm_M) (t0 : Int32) : Option (Nat × Int32 × mm_M) :=
  mm_nz t0 (some (0, t0, g))
set_option maxRecDepth 100000 in
set_option maxHeartbeats 4000000 in
theorem w_Tr_areNeighbours_b23 {p : Program} {l : Launch} {e : Env} {R : Room} {s : State} {m : MethodId} {args : Array Value} {below : List Frame} {meth : Method} {c : Code} {L : mm_L} {eo : Nat} {v : Int32} {g' : mm_M} {g : mm_M} {t0 : Int32} {H : Heap} {locs : List Loc} {ls : Array Slot} (hX : mm_X L prog_7_method_4_code 3 "LoanArrows$Tree" (some .boolean) 1 22 p l R s m meth c) (h : f_Tr_areNeighbours_b23 L.1 g t0 = some (eo, v, g')) (hP : mm_P L g H) (hF : ∀ q ∈ locs, mm_F L q.base) (hl : lv_has ls 3 []) : W p l e R s m args below meth c H locs 0 0 (mm_Q below L s (mm_oi eo v) g') (F0 m 23 ls [.int t0]) := by
  have hX0 := hX
  obtain ⟨hx, hb, hml, hown, hr, hlk, hex, hRf, hRl, hRc, hRs, hJ, hK, hst, h00⟩ := hX0
  unfold f_Tr_areNeighbours_b23 at h
  obtain ⟨hn, h⟩ := mm_nz_some h
  cases h
  exact mm_zret hx hb hr hn hlk hP hF d_Tr_areNeighbours_23
def f_Tr_areNeighbours_b18 (n : Nat) (g : mm_M)  : Option (Nat × Int32 × mm_M) :=
  f_Tr_areNeighbours_b23 n g 1
set_option maxRecDepth 100000 in
set_option maxHeartbeats 4000000 in
theorem w_Tr_areNeighbours_b18 {p : Program} {l : Launch} {e : Env} {R : Room} {s : State} {m : MethodId} {args : Array Value} {below : List Frame} {meth : Method} {c : Code} {L : mm_L} {eo : Nat} {v : Int32} {g' : mm_M} {g : mm_M} {H : Heap} {locs : List Loc} {ls : Array Slot} (hX : mm_X L prog_7_method_4_code 3 "LoanArrows$Tree" (some .boolean) 1 22 p l R s m meth c) (h : f_Tr_areNeighbours_b18 L.1 g = some (eo, v, g')) (hP : mm_P L g H) (hF : ∀ q ∈ locs, mm_F L q.base) (hl : lv_has ls 3 []) : W p l e R s m args below meth c H locs 0 0 (mm_Q below L s (mm_oi eo v) g') (F0 m 18 ls []) := by
  have hX0 := hX
  obtain ⟨hx, hb, hml, hown, hr, hlk, hex, hRf, hRl, hRc, hRs, hJ, hK, hst, h00⟩ := hX0
  unfold f_Tr_areNeighbours_b18 at h
  refine lv_iconst (v := 1) hx hb d_Tr_areNeighbours_18 (by decide) ?_
  refine lv_goto (tgt := 23) hx hb d_Tr_areNeighbours_19 rfl ?_
  exact w_Tr_areNeighbours_b23 hX h hP hF (lv_sub (l' := []) hl [] rfl)
def f_Tr_areNeighbours (n : Nat) (g : mm_M) (r0 : Nat) (x1 : Int32) (x2 : Int32) : Option (Nat × Int32 × mm_M) :=
  mm_bd (f_Tr_isParent n g r0 x1 x2) 0 (fun z1 g2 => (if z1 = 0 then mm_bd (f_Tr_isParent n g2 r0 x2 x1) 0 (fun z4 g5 => (if z4 = 0 then f_Tr_areNeighbours_b23 n g5 0 else f_Tr_areNeighbours_b18 n g5)) else f_Tr_areNeighbours_b18 n g2))
set_option maxRecDepth 100000 in
set_option maxHeartbeats 4000000 in
theorem w_Tr_areNeighbours {p : Program} {l : Launch} {e : Env} {R : Room} {s : State} {m : MethodId} {args : Array Value} {below : List Frame} {meth : Method} {c : Code} {L : mm_L} {eo : Nat} {v : Int32} {g' : mm_M} {g : mm_M} {r0 : Nat} {x1 : Int32} {x2 : Int32} {H : Heap} {locs : List Loc} {ls : Array Slot} (hX : mm_X L prog_7_method_4_code 3 "LoanArrows$Tree" (some .boolean) 1 22 p l R s m meth c) (h : f_Tr_areNeighbours L.1 g r0 x1 x2 = some (eo, v, g')) (hP : mm_P L g H) (hF : ∀ q ∈ locs, mm_F L q.base) (hl : lv_has ls 3 [(0, .ref (L.2.1 2 r0)), (1, .int x1), (2, .int x2)]) (hv_r0 : mm_lv L.1 2 r0) : W p l e R s m args below meth c H locs 0 0 (mm_Q below L s (mm_oi eo v) g') (F0 m 0 ls []) := by
  have hX0 := hX
  obtain ⟨hx, hb, hml, hown, hr, hlk, hex, hRf, hRl, hRc, hRs, hJ, hK, hst, h00⟩ := hX0
  unfold f_Tr_areNeighbours at h
  refine lv_aload_n hx hb d_Tr_areNeighbours_0 rfl (lv_at hl 0 rfl) ?_
  refine lv_iload_n hx hb d_Tr_areNeighbours_1 rfl (lv_at hl 1 rfl) ?_
  refine lv_iload_n hx hb d_Tr_areNeighbours_2 rfl (lv_at hl 2 rfl) ?_
  rcases mm_bd_some h with ⟨z1, g2, hf3, h⟩ | ⟨xe, z1, g2, hf3, h⟩
  · refine mm_goR (v := (some (.int z1))) (mm_goV (As := [.int x1, .int x2]) (rest := []) hX (c_Tr_isParent hv_r0 hf3) yw_Tr_isParent wt_455 wt_368 wt_369 hP hF (mm_recv (h := 2) (i := r0) hX hP hv_r0 rfl rfl) rfl hl.1 (Nat.le_of_ble_eq_true rfl) (by decide) (by decide) hRc hRs d_Tr_areNeighbours_3) hF (fun H locs hP hF _ => ?_)
    refine lv_if_ne (tgt := 18) hx hb d_Tr_areNeighbours_6 rfl (fun hc => ?_) (fun hc => ?_)
    · have h := mm_neg hc h
      exact w_Tr_areNeighbours_b18 hX h hP hF (lv_sub (l' := []) hl [] rfl)
    · have h := mm_pos hc h
      refine lv_aload_n hx hb d_Tr_areNeighbours_9 rfl (lv_at hl 0 rfl) ?_
      refine lv_iload_n hx hb d_Tr_areNeighbours_10 rfl (lv_at hl 2 rfl) ?_
      refine lv_iload_n hx hb d_Tr_areNeighbours_11 rfl (lv_at hl 1 rfl) ?_
      rcases mm_bd_some h with ⟨z4, g5, hf6, h⟩ | ⟨xe, z4, g5, hf6, h⟩
      · refine mm_goR (v := (some (.int z4))) (mm_goV (As := [.int x2, .int x1]) (rest := []) hX (c_Tr_isParent hv_r0 hf6) yw_Tr_isParent wt_455 wt_368 wt_369 hP hF (mm_recv (h := 2) (i := r0) hX hP hv_r0 rfl rfl) rfl hl.1 (Nat.le_of_ble_eq_true rfl) (by decide) (by decide) hRc hRs d_Tr_areNeighbours_12) hF (fun H locs hP hF _ => ?_)
        refine lv_if_eq (tgt := 22) hx hb d_Tr_areNeighbours_15 rfl (fun hc => ?_) (fun hc => ?_)
        · have h := mm_pos hc h
          refine lv_iconst (v := 0) hx hb d_Tr_areNeighbours_22 (by decide) ?_
          exact w_Tr_areNeighbours_b23 hX h hP hF (lv_sub (l' := []) hl [] rfl)
        · have h := mm_neg hc h
          exact w_Tr_areNeighbours_b18 hX h hP hF (lv_sub (l' := []) hl [] rfl)
      · cases h
        exact mm_goT (x := xe + 1) (mm_goV (As := [.int x2, .int x1]) (rest := []) hX (c_Tr_isParent hv_r0 hf6) yw_Tr_isParent wt_455 wt_368 wt_369 hP hF (mm_recv (h := 2) (i := r0) hX hP hv_r0 rfl rfl) rfl hl.1 (Nat.le_of_ble_eq_true rfl) (by decide) (by decide) hRc hRs d_Tr_areNeighbours_12) hF hex hlk
  · cases h
    exact mm_goT (x := xe + 1) (mm_goV (As := [.int x1, .int x2]) (rest := []) hX (c_Tr_isParent hv_r0 hf3) yw_Tr_isParent wt_455 wt_368 wt_369 hP hF (mm_recv (h := 2) (i := r0) hX hP hv_r0 rfl rfl) rfl hl.1 (Nat.le_of_ble_eq_true rfl) (by decide) (by decide) hRc hRs d_Tr_areNeighbours_3) hF hex hlk
set_option maxRecDepth 100000 in
set_option maxHeartbeats 4000000 in
theorem c_Tr_areNeighbours {l : Launch} {L : mm_L} {g g' : mm_M} {eo : Nat} {v : Int32} {r0 : Nat} {x1 : Int32} {x2 : Int32} (hv_r0 : mm_lv L.1 2 r0) (h : f_Tr_areNeighbours L.1 g r0 x1 x2 = some (eo, v, g')) : mm_C l y_Tr_areNeighbours prog_7_method_4_code 3 (some .boolean) 1 22 L [.ref (L.2.1 2 r0), .int x1, .int x2] g (mm_oi eo v) g' := by
  intro p e R s m below meth c hX hP
  refine mm_enter (Nat.le_of_ble_eq_true rfl) fun ls hl => ?_
  exact w_Tr_areNeighbours hX h hP (fun q hq => by cases hq) (lv_sub (l' := [(0, .ref (L.2.1 2 r0)), (1, .int x1), (2, .int x2)]) hl [0, 1, 2] rfl) hv_r0
def f_Tr_stepTowards_b52 (n : Nat) (g : mm_M) (r0 : Nat) (x1 : Int32) : Option (Nat × Int32 × mm_M) :=
  mm_ix x1 n (some (0, (g 3 0 x1.toNatClampNeg), g))
set_option maxRecDepth 100000 in
set_option maxHeartbeats 4000000 in
theorem w_Tr_stepTowards_b52 {p : Program} {l : Launch} {e : Env} {R : Room} {s : State} {m : MethodId} {args : Array Value} {below : List Frame} {meth : Method} {c : Code} {L : mm_L} {eo : Nat} {v : Int32} {g' : mm_M} {g : mm_M} {r0 : Nat} {x1 : Int32} {H : Heap} {locs : List Loc} {ls : Array Slot} (hX : mm_X L prog_7_method_5_code 5 "LoanArrows$Tree" (some .int) 0 0 p l R s m meth c) (h : f_Tr_stepTowards_b52 L.1 g r0 x1 = some (eo, v, g')) (hP : mm_P L g H) (hF : ∀ q ∈ locs, mm_F L q.base) (hl : lv_has ls 5 [(0, .ref (L.2.1 2 r0)), (1, .int x1)]) (hv_r0 : mm_lv L.1 2 r0) : W p l e R s m args below meth c H locs 0 0 (mm_Q below L s (mm_oi eo v) g') (F0 m 52 ls []) := by
  have hX0 := hX
  obtain ⟨hx, hb, hml, hown, hr, hlk, hex, hRf, hRl, hRc, hRs, hJ, hK, hst, h00⟩ := hX0
  unfold f_Tr_stepTowards_b52 at h
  refine lv_aload_n hx hb d_Tr_stepTowards_52 rfl (lv_at hl 0 rfl) ?_
  refine mm_get (h := 2) (i := r0) 0 hX hP hv_r0 rfl rfl uin_2 (by decide) ⟨rfl, rfl, rfl⟩ wt_34 rfl d_Tr_stepTowards_53 ?_
  refine lv_iload_n hx hb d_Tr_stepTowards_56 rfl (lv_at hl 1 rfl) ?_
  obtain ⟨hin, h⟩ := mm_ix_some h
  refine mm_iald (h := 3) (i := 0) hX hP mm_ls3 (fun _ => rfl) rfl hin d_Tr_stepTowards_57 ?_
  cases h
  exact mm_iret hx hb hr hlk hP hF d_Tr_stepTowards_58
def f_Tr_stepTowards_l12 (n : Nat) : Nat → mm_M → Nat → Int32 → Int32 → Int32 → Option (Nat × Int32 × mm_M)
  | 0, _, _, _, _, _ => none
  | k + 1, g, r0, x1, x3, x4 => (if (Int32.ofNat n) ≤ x4 then f_Tr_stepTowards_b52 n g r0 x1 else (if x3 ≤ x1 then f_Tr_stepTowards_b52 n g r0 x1 else mm_ix x3 n ((if (g 3 0 x3.toNatClampNeg) = x1 then some (0, x3, g) else mm_ix x3 n (f_Tr_stepTowards_l12 n k g r0 x1 (g 3 0 x3.toNatClampNeg) (x4 + 1))))))
set_option maxRecDepth 100000 in
set_option maxHeartbeats 4000000 in
theorem w_Tr_stepTowards_l12 {p : Program} {l : Launch} {e : Env} {R : Room} {s : State} {m : MethodId} {args : Array Value} {below : List Frame} {meth : Method} {c : Code} {L : mm_L} {eo : Nat} {v : Int32} {g' : mm_M} (hX : mm_X L prog_7_method_5_code 5 "LoanArrows$Tree" (some .int) 0 0 p l R s m meth c) : ∀ (k : Nat) (g : mm_M) (r0 : Nat) (x1 : Int32) (x3 : Int32) (x4 : Int32) (H : Heap) (locs : List Loc) (ls : Array Slot), f_Tr_stepTowards_l12 L.1 k g r0 x1 x3 x4 = some (eo, v, g') → mm_P L g H → (∀ q ∈ locs, mm_F L q.base) → lv_has ls 5 [(0, .ref (L.2.1 2 r0)), (1, .int x1), (3, .int x3), (4, .int x4)] → mm_lv L.1 2 r0 → W p l e R s m args below meth c H locs 0 0 (mm_Q below L s (mm_oi eo v) g') (F0 m 12 ls []) := by
  have hX0 := hX
  obtain ⟨hx, hb, hml, hown, hr, hlk, hex, hRf, hRl, hRc, hRs, hJ, hK, hst, h00⟩ := hX0
  intro k
  induction k with
  | zero =>
    intro g r0 x1 x3 x4 H locs ls h hP hF hl hv_r0
    rw [f_Tr_stepTowards_l12] at h
    cases h
  | succ k ih =>
    intro g r0 x1 x3 x4 H locs ls h hP hF hl hv_r0
    rw [f_Tr_stepTowards_l12] at h
    refine lv_iload hx hb d_Tr_stepTowards_12 (lv_at hl 3 rfl) ?_
    refine lv_aload_n hx hb d_Tr_stepTowards_14 rfl (lv_at hl 0 rfl) ?_
    refine mm_get (h := 2) (i := r0) 0 hX hP hv_r0 rfl rfl uin_2 (by decide) ⟨rfl, rfl, rfl⟩ wt_34 rfl d_Tr_stepTowards_15 ?_
    refine mm_alen (t := 0) (h := 3) (i := 0) hX hP mm_ls3 rfl rfl rfl d_Tr_stepTowards_18 ?_
    refine lv_icmp_ge (tgt := 52) hx hb d_Tr_stepTowards_19 rfl (fun hc => ?_) (fun hc => ?_)
    · have h := mm_pos hc h
      exact w_Tr_stepTowards_b52 hX h hP hF (lv_sub (l' := [(0, .ref (L.2.1 2 r0)), (1, .int x1)]) hl [0, 1] rfl) hv_r0
    · have h := mm_neg hc h
      refine lv_iload_n hx hb d_Tr_stepTowards_22 rfl (lv_at hl 2 rfl) ?_
      refine lv_iload_n hx hb d_Tr_stepTowards_23 rfl (lv_at hl 1 rfl) ?_
      refine lv_icmp_le (tgt := 52) hx hb d_Tr_stepTowards_24 rfl (fun hc => ?_) (fun hc => ?_)
      · have h := mm_pos hc h
        exact w_Tr_stepTowards_b52 hX h hP hF (lv_sub (l' := [(0, .ref (L.2.1 2 r0)), (1, .int x1)]) hl [0, 1] rfl) hv_r0
      · have h := mm_neg hc h
        refine lv_aload_n hx hb d_Tr_stepTowards_27 rfl (lv_at hl 0 rfl) ?_
        refine mm_get (h := 2) (i := r0) 0 hX hP hv_r0 rfl rfl uin_2 (by decide) ⟨rfl, rfl, rfl⟩ wt_34 rfl d_Tr_stepTowards_28 ?_
        refine lv_iload_n hx hb d_Tr_stepTowards_31 rfl (lv_at hl 2 rfl) ?_
        obtain ⟨hin, h⟩ := mm_ix_some h
        refine mm_iald (h := 3) (i := 0) hX hP mm_ls3 (fun _ => rfl) rfl hin d_Tr_stepTowards_32 ?_
        refine lv_iload_n hx hb d_Tr_stepTowards_33 rfl (lv_at hl 1 rfl) ?_
        refine lv_icmp_ne (tgt := 39) hx hb d_Tr_stepTowards_34 rfl (fun hc => ?_) (fun hc => ?_)
        · have h := mm_neg hc h
          refine lv_aload_n hx hb d_Tr_stepTowards_39 rfl (lv_at hl 0 rfl) ?_
          refine mm_get (h := 2) (i := r0) 0 hX hP hv_r0 rfl rfl uin_2 (by decide) ⟨rfl, rfl, rfl⟩ wt_34 rfl d_Tr_stepTowards_40 ?_
          refine lv_iload_n hx hb d_Tr_stepTowards_43 rfl (lv_at hl 2 rfl) ?_
          obtain ⟨hin, h⟩ := mm_ix_some h
          refine mm_iald (h := 3) (i := 0) hX hP mm_ls3 (fun _ => rfl) rfl hin d_Tr_stepTowards_44 ?_
          refine lv_istore_n hx hb d_Tr_stepTowards_45 rfl hl (Nat.lt_of_lt_of_le (Nat.lt_succ_self _) (Nat.le_of_ble_eq_true rfl)) rfl (fun ls hl => ?_)
          have hl : lv_has ls 5 [(3, .int (g 3 0 x3.toNatClampNeg)), (0, .ref (L.2.1 2 r0)), (1, .int x1), (4, .int x4)] := hl
          refine lv_iinc (k := 3) (v := (x4 + 1)) hx hb d_Tr_stepTowards_46 hl rfl (congrArg (fun z => x4 + z) mm_i1) (Nat.lt_of_lt_of_le (Nat.lt_succ_self _) (Nat.le_of_ble_eq_true rfl)) rfl (fun ls hl => ?_)
          have hl : lv_has ls 5 [(4, .int (x4 + 1)), (3, .int (g 3 0 x3.toNatClampNeg)), (0, .ref (L.2.1 2 r0)), (1, .int x1)] := hl
          refine lv_goto (tgt := 12) hx hb d_Tr_stepTowards_49 rfl ?_
          exact ih _ _ _ _ _ _ _ _ h hP hF (lv_sub (l' := [(0, .ref (L.2.1 2 r0)), (1, .int x1), (3, .int (g 3 0 x3.toNatClampNeg)), (4, .int (x4 + 1))]) hl [2, 3, 1, 0] rfl) hv_r0
        · have h := mm_pos hc h
          refine lv_iload_n hx hb d_Tr_stepTowards_37 rfl (lv_at hl 2 rfl) ?_
          cases h
          exact mm_iret hx hb hr hlk hP hF d_Tr_stepTowards_38
def f_Tr_stepTowards (n : Nat) (g : mm_M) (r0 : Nat) (x1 : Int32) (x2 : Int32) : Option (Nat × Int32 × mm_M) :=
  (if x1 = x2 then some (0, x1, g) else f_Tr_stepTowards_l12 n 4096 g r0 x1 x2 0)
set_option maxRecDepth 100000 in
set_option maxHeartbeats 4000000 in
theorem w_Tr_stepTowards {p : Program} {l : Launch} {e : Env} {R : Room} {s : State} {m : MethodId} {args : Array Value} {below : List Frame} {meth : Method} {c : Code} {L : mm_L} {eo : Nat} {v : Int32} {g' : mm_M} {g : mm_M} {r0 : Nat} {x1 : Int32} {x2 : Int32} {H : Heap} {locs : List Loc} {ls : Array Slot} (hX : mm_X L prog_7_method_5_code 5 "LoanArrows$Tree" (some .int) 0 0 p l R s m meth c) (h : f_Tr_stepTowards L.1 g r0 x1 x2 = some (eo, v, g')) (hP : mm_P L g H) (hF : ∀ q ∈ locs, mm_F L q.base) (hl : lv_has ls 5 [(0, .ref (L.2.1 2 r0)), (1, .int x1), (2, .int x2)]) (hv_r0 : mm_lv L.1 2 r0) : W p l e R s m args below meth c H locs 0 0 (mm_Q below L s (mm_oi eo v) g') (F0 m 0 ls []) := by
  have hX0 := hX
  obtain ⟨hx, hb, hml, hown, hr, hlk, hex, hRf, hRl, hRc, hRs, hJ, hK, hst, h00⟩ := hX0
  unfold f_Tr_stepTowards at h
  refine lv_iload_n hx hb d_Tr_stepTowards_0 rfl (lv_at hl 1 rfl) ?_
  refine lv_iload_n hx hb d_Tr_stepTowards_1 rfl (lv_at hl 2 rfl) ?_
  refine lv_icmp_ne (tgt := 7) hx hb d_Tr_stepTowards_2 rfl (fun hc => ?_) (fun hc => ?_)
  · have h := mm_neg hc h
    refine lv_iload_n hx hb d_Tr_stepTowards_7 rfl (lv_at hl 2 rfl) ?_
    refine lv_istore_n hx hb d_Tr_stepTowards_8 rfl hl (Nat.lt_of_lt_of_le (Nat.lt_succ_self _) (Nat.le_of_ble_eq_true rfl)) rfl (fun ls hl => ?_)
    have hl : lv_has ls 5 [(3, .int x2), (0, .ref (L.2.1 2 r0)), (1, .int x1), (2, .int x2)] := hl
    refine lv_iconst (v := 0) hx hb d_Tr_stepTowards_9 (by decide) ?_
    refine lv_istore hx hb d_Tr_stepTowards_10 hl (Nat.lt_of_lt_of_le (Nat.lt_succ_self _) (Nat.le_of_ble_eq_true rfl)) rfl (fun ls hl => ?_)
    have hl : lv_has ls 5 [(4, .int 0), (3, .int x2), (0, .ref (L.2.1 2 r0)), (1, .int x1), (2, .int x2)] := hl
    exact w_Tr_stepTowards_l12 hX _ _ _ _ _ _ _ _ _ h hP hF (lv_sub (l' := [(0, .ref (L.2.1 2 r0)), (1, .int x1), (3, .int x2), (4, .int 0)]) hl [2, 3, 1, 0] rfl) hv_r0
  · have h := mm_pos hc h
    refine lv_iload_n hx hb d_Tr_stepTowards_5 rfl (lv_at hl 1 rfl) ?_
    cases h
    exact mm_iret hx hb hr hlk hP hF d_Tr_stepTowards_6
set_option maxRecDepth 100000 in
set_option maxHeartbeats 4000000 in
theorem c_Tr_stepTowards {l : Launch} {L : mm_L} {g g' : mm_M} {eo : Nat} {v : Int32} {r0 : Nat} {x1 : Int32} {x2 : Int32} (hv_r0 : mm_lv L.1 2 r0) (h : f_Tr_stepTowards L.1 g r0 x1 x2 = some (eo, v, g')) : mm_C l y_Tr_stepTowards prog_7_method_5_code 5 (some .int) 0 0 L [.ref (L.2.1 2 r0), .int x1, .int x2] g (mm_oi eo v) g' := by
  intro p e R s m below meth c hX hP
  refine mm_enter (Nat.le_of_ble_eq_true rfl) fun ls hl => ?_
  exact w_Tr_stepTowards hX h hP (fun q hq => by cases hq) (lv_sub (l' := [(0, .ref (L.2.1 2 r0)), (1, .int x1), (2, .int x2)]) hl [0, 1, 2] rfl) hv_r0

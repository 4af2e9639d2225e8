def f_Lw_copyAt (n : Nat) (g : mm_M) (r0 : Nat) (x1 : Int32) (x2 : Int32) : Option (Int32 × mm_M) :=
  mm_tc (f_LA_copyAt n g r0 x1 x2) (fun z1 g2 => some (0, g2)) (fun xe g2 => (if xe = 1 then some (1, g2) else (if xe = 3 then some (2, g2) else none)))
set_option maxRecDepth 100000 in
set_option maxHeartbeats 4000000 in
theorem w_Lw_copyAt {p : Program} {l : Launch} {e : Env} {R : Room} {s : State} {m : MethodId} {args : Array Value} {below : List Frame} {meth : Method} {c : Code} {L : mm_L} {v : Int32} {g' : mm_M} {g : mm_M} {r0 : Nat} {x1 : Int32} {x2 : Int32} {H : Heap} {locs : List Loc} {ls : Array Slot} (hX : mm_Xh [(0, 6, 9, 13), (0, 6, 12, 15)] L method_3_code 4 "LoanArrowsLaw" (some .int) 8 125 p l R s m meth c) (h : f_Lw_copyAt L.1 g r0 x1 x2 = some (v, g')) (hP : mm_P L g H) (hF : ∀ q ∈ locs, mm_F L q.base) (hl : lv_has ls 4 [(0, .ref (L.2.1 0 r0)), (1, .int x1), (2, .int x2)]) (hv_r0 : mm_lv L.1 0 r0) : W p l e R s m args below meth c H locs 0 0 (mm_Q1 below L s v g') (F0 m 0 ls []) := by
  have hX0 := hX
  obtain ⟨hx, hb, hml, hown, hr, hlk, hex, hRf, hRl, hRc, hRs, hJ, hK, hst, h00⟩ := hX0
  unfold f_Lw_copyAt at h
  refine lv_aload_n hx hb d_Lw_copyAt_0 rfl (lv_at hl 0 rfl) ?_
  refine lv_iload_n hx hb d_Lw_copyAt_1 rfl (lv_at hl 1 rfl) ?_
  refine lv_iload_n hx hb d_Lw_copyAt_2 rfl (lv_at hl 2 rfl) ?_
  rcases mm_tc_some h with ⟨z1, g2, hf3, h⟩ | ⟨xe, z1, g2, hf3, h⟩
  · refine mm_goR (v := none) (mm_goV (As := [.int x1, .int x2]) (rest := []) hX (c_LA_copyAt hv_r0 hf3) yw_LA_copyAt wt_199 wt_200 wt_201 hP hF (mm_recv (h := 0) (i := r0) hX hP hv_r0 rfl rfl) rfl hl.1 (Nat.le_of_ble_eq_true rfl) (by decide) (by decide) hRc hRs d_Lw_copyAt_3) hF (fun H locs hP hF _ => ?_)
    refine lv_goto (tgt := 15) hx hb d_Lw_copyAt_6 rfl ?_
    refine lv_iconst (v := 0) hx hb d_Lw_copyAt_15 (by decide) ?_
    cases h
    exact mm_ret1 hx hb hr hlk hP hF (by decide) (by decide) d_Lw_copyAt_16
  · have h := h
    by_cases hc1 : xe + 1 = 1
    · have h := mm_pos hc1 h
      obtain rfl : xe = 0 := by omega
      refine mm_goC (x := 1) (pre := []) (suf := [(0, 6, 12, 15)]) hX (mm_goV (As := [.int x1, .int x2]) (rest := []) hX (c_LA_copyAt hv_r0 hf3) yw_LA_copyAt wt_199 wt_200 wt_201 hP hF (mm_recv (h := 0) (i := r0) hX hP hv_r0 rfl rfl) rfl hl.1 (Nat.le_of_ble_eq_true rfl) (by decide) (by decide) hRc hRs d_Lw_copyAt_3) hF rfl (fun _ h => absurd h List.not_mem_nil) (by decide) (by decide) (by decide) wt_197 wt_209 (fun q H locs hP hF => ?_)
      refine lv_astore_n hx hb d_Lw_copyAt_9 rfl hl (Nat.lt_of_lt_of_le (Nat.lt_succ_self _) (Nat.le_of_ble_eq_true rfl)) rfl (fun ls hl => ?_)
      have hl : lv_has ls 4 [(3, .ref q), (0, .ref (L.2.1 0 r0)), (1, .int x1), (2, .int x2)] := hl
      refine lv_iconst (v := 1) hx hb d_Lw_copyAt_10 (by decide) ?_
      cases h
      exact mm_ret1 hx hb hr hlk hP hF (by decide) (by decide) d_Lw_copyAt_11
    have h := mm_neg hc1 h
    by_cases hc3 : xe + 1 = 3
    · have h := mm_pos hc3 h
      obtain rfl : xe = 2 := by omega
      refine mm_goC (x := 3) (pre := [(0, 6, 9, 13)]) (suf := []) hX (mm_goV (As := [.int x1, .int x2]) (rest := []) hX (c_LA_copyAt hv_r0 hf3) yw_LA_copyAt wt_199 wt_200 wt_201 hP hF (mm_recv (h := 0) (i := r0) hX hP hv_r0 rfl rfl) rfl hl.1 (Nat.le_of_ble_eq_true rfl) (by decide) (by decide) hRc hRs d_Lw_copyAt_3) hF rfl (List.forall_mem_cons.mpr ⟨⟨by decide, "java/lang/IndexOutOfBoundsException", wt_197, by decide +kernel⟩, fun _ h => absurd h List.not_mem_nil⟩) (by decide) (by decide) (by decide) wt_198 wt_286 (fun q H locs hP hF => ?_)
      refine lv_astore_n hx hb d_Lw_copyAt_12 rfl hl (Nat.lt_of_lt_of_le (Nat.lt_succ_self _) (Nat.le_of_ble_eq_true rfl)) rfl (fun ls hl => ?_)
      have hl : lv_has ls 4 [(3, .ref q), (0, .ref (L.2.1 0 r0)), (1, .int x1), (2, .int x2)] := hl
      refine lv_iconst (v := 2) hx hb d_Lw_copyAt_13 (by decide) ?_
      cases h
      exact mm_ret1 hx hb hr hlk hP hF (by decide) (by decide) d_Lw_copyAt_14
    have h := mm_neg hc3 h
    cases h
set_option maxRecDepth 100000 in
set_option maxHeartbeats 4000000 in
theorem c_Lw_copyAt {l : Launch} {L : mm_L} {g g' : mm_M} {v : Int32} {r0 : Nat} {x1 : Int32} {x2 : Int32} (hv_r0 : mm_lv L.1 0 r0) (h : f_Lw_copyAt L.1 g r0 x1 x2 = some (v, g')) : mm_C1 l y_Lw_copyAt method_3_code 4 (some .int) [(0, 6, 9, 13), (0, 6, 12, 15)] 8 125 L [.ref (L.2.1 0 r0), .int x1, .int x2] g v g' := by
  intro p e R s m below meth c hX hP
  refine mm_enter (Nat.le_of_ble_eq_true rfl) fun ls hl => ?_
  exact w_Lw_copyAt hX h hP (fun q hq => by cases hq) (lv_sub (l' := [(0, .ref (L.2.1 0 r0)), (1, .int x1), (2, .int x2)]) hl [0, 1, 2] rfl) hv_r0
def f_Lw_want (n : Nat) (g : mm_M) (r0 : Nat) (x1 : Int32) (x2 : Int32) (x3 : Int32) (r4 : Nat) : Option (Int32 × mm_M) :=
  mm_tc (f_LA_want n g r0 x1 x2 x3) (fun z1 g2 => mm_let (mm_st g2 50 0 0 z1) (fun g4 => some (0, g4))) (fun xe g2 => (if xe = 1 then some (1, g2) else (if xe = 2 then some (2, g2) else (if xe = 3 then some (3, g2) else none))))
set_option maxRecDepth 100000 in
set_option maxHeartbeats 4000000 in
theorem w_Lw_want {p : Program} {l : Launch} {e : Env} {R : Room} {s : State} {m : MethodId} {args : Array Value} {below : List Frame} {meth : Method} {c : Code} {L : mm_L} {v : Int32} {g' : mm_M} {g : mm_M} {r0 : Nat} {x1 : Int32} {x2 : Int32} {x3 : Int32} {r4 : Nat} {H : Heap} {locs : List Loc} {ls : Array Slot} (hX : mm_Xh [(0, 12, 15, 13), (0, 12, 19, 21), (0, 12, 23, 15)] L method_4_code 6 "LoanArrowsLaw" (some .int) 8 127 p l R s m meth c) (h : f_Lw_want L.1 g r0 x1 x2 x3 r4 = some (v, g')) (hP : mm_P L g H) (hF : ∀ q ∈ locs, mm_F L q.base) (hl : lv_has ls 6 [(0, .ref (L.2.1 0 r0)), (1, .int x1), (2, .int x2), (3, .int x3), (4, .ref (L.2.1 50 r4))]) (hv_r0 : mm_lv L.1 0 r0) (hv_r4 : mm_lv L.1 50 r4) : W p l e R s m args below meth c H locs 0 0 (mm_Q1 below L s v g') (F0 m 0 ls []) := by
  have hX0 := hX
  obtain ⟨hx, hb, hml, hown, hr, hlk, hex, hRf, hRl, hRc, hRs, hJ, hK, hst, h00⟩ := hX0
  unfold f_Lw_want at h
  refine lv_aload hx hb d_Lw_want_0 (lv_at hl 4 rfl) ?_
  refine lv_iconst (v := 0) hx hb d_Lw_want_2 (by decide) ?_
  refine lv_aload_n hx hb d_Lw_want_3 rfl (lv_at hl 0 rfl) ?_
  refine lv_iload_n hx hb d_Lw_want_4 rfl (lv_at hl 1 rfl) ?_
  refine lv_iload_n hx hb d_Lw_want_5 rfl (lv_at hl 2 rfl) ?_
  refine lv_iload_n hx hb d_Lw_want_6 rfl (lv_at hl 3 rfl) ?_
  rcases mm_tc_some h with ⟨z1, g2, hf3, h⟩ | ⟨xe, z1, g2, hf3, h⟩
  · refine mm_goR (v := (some (.int z1))) (mm_goV (As := [.int x1, .int x2, .int x3]) (rest := [.int 0, .ref (L.2.1 50 r4)]) hX (c_LA_want hv_r0 hf3) yw_LA_want wt_312 wt_313 wt_314 hP hF (mm_recv (h := 0) (i := r0) hX hP hv_r0 rfl rfl) rfl hl.1 (Nat.le_of_ble_eq_true rfl) (by decide) (by decide) hRc hRs d_Lw_want_7) hF (fun H locs hP hF _ => ?_)
    refine lv_i2l hx hb d_Lw_want_10 rfl ?_
    obtain rfl : r4 = 0 := hv_r4
    refine mm_last (x := z1) hX hP hF d_Lw_want_11 (fun H locs hP hF => ?_)
    obtain ⟨g4, e5, h⟩ := mm_let_ex h
    have hP : mm_P L g4 H := by rw [e5]; exact hP
    refine lv_goto (tgt := 27) hx hb d_Lw_want_12 rfl ?_
    refine lv_iconst (v := 0) hx hb d_Lw_want_27 (by decide) ?_
    cases h
    exact mm_ret1 hx hb hr hlk hP hF (by decide) (by decide) d_Lw_want_28
  · have h := h
    by_cases hc1 : xe + 1 = 1
    · have h := mm_pos hc1 h
      obtain rfl : xe = 0 := by omega
      refine mm_goC (x := 1) (pre := []) (suf := [(0, 12, 19, 21), (0, 12, 23, 15)]) hX (mm_goV (As := [.int x1, .int x2, .int x3]) (rest := [.int 0, .ref (L.2.1 50 r4)]) hX (c_LA_want hv_r0 hf3) yw_LA_want wt_312 wt_313 wt_314 hP hF (mm_recv (h := 0) (i := r0) hX hP hv_r0 rfl rfl) rfl hl.1 (Nat.le_of_ble_eq_true rfl) (by decide) (by decide) hRc hRs d_Lw_want_7) hF rfl (fun _ h => absurd h List.not_mem_nil) (by decide) (by decide) (by decide) wt_197 wt_209 (fun q H locs hP hF => ?_)
      refine lv_astore hx hb d_Lw_want_15 hl (Nat.lt_of_lt_of_le (Nat.lt_succ_self _) (Nat.le_of_ble_eq_true rfl)) rfl (fun ls hl => ?_)
      have hl : lv_has ls 6 [(5, .ref q), (0, .ref (L.2.1 0 r0)), (1, .int x1), (2, .int x2), (3, .int x3), (4, .ref (L.2.1 50 r4))] := hl
      refine lv_iconst (v := 1) hx hb d_Lw_want_17 (by decide) ?_
      cases h
      exact mm_ret1 hx hb hr hlk hP hF (by decide) (by decide) d_Lw_want_18
    have h := mm_neg hc1 h
    by_cases hc2 : xe + 1 = 2
    · have h := mm_pos hc2 h
      obtain rfl : xe = 1 := by omega
      refine mm_goC (x := 2) (pre := [(0, 12, 15, 13)]) (suf := [(0, 12, 23, 15)]) hX (mm_goV (As := [.int x1, .int x2, .int x3]) (rest := [.int 0, .ref (L.2.1 50 r4)]) hX (c_LA_want hv_r0 hf3) yw_LA_want wt_312 wt_313 wt_314 hP hF (mm_recv (h := 0) (i := r0) hX hP hv_r0 rfl rfl) rfl hl.1 (Nat.le_of_ble_eq_true rfl) (by decide) (by decide) hRc hRs d_Lw_want_7) hF rfl (List.forall_mem_cons.mpr ⟨⟨by decide, "java/lang/IndexOutOfBoundsException", wt_197, by decide +kernel⟩, fun _ h => absurd h List.not_mem_nil⟩) (by decide) (by decide) (by decide) wt_311 wt_318 (fun q H locs hP hF => ?_)
      refine lv_astore hx hb d_Lw_want_19 hl (Nat.lt_of_lt_of_le (Nat.lt_succ_self _) (Nat.le_of_ble_eq_true rfl)) rfl (fun ls hl => ?_)
      have hl : lv_has ls 6 [(5, .ref q), (0, .ref (L.2.1 0 r0)), (1, .int x1), (2, .int x2), (3, .int x3), (4, .ref (L.2.1 50 r4))] := hl
      refine lv_iconst (v := 2) hx hb d_Lw_want_21 (by decide) ?_
      cases h
      exact mm_ret1 hx hb hr hlk hP hF (by decide) (by decide) d_Lw_want_22
    have h := mm_neg hc2 h
    by_cases hc3 : xe + 1 = 3
    · have h := mm_pos hc3 h
      obtain rfl : xe = 2 := by omega
      refine mm_goC (x := 3) (pre := [(0, 12, 15, 13), (0, 12, 19, 21)]) (suf := []) hX (mm_goV (As := [.int x1, .int x2, .int x3]) (rest := [.int 0, .ref (L.2.1 50 r4)]) hX (c_LA_want hv_r0 hf3) yw_LA_want wt_312 wt_313 wt_314 hP hF (mm_recv (h := 0) (i := r0) hX hP hv_r0 rfl rfl) rfl hl.1 (Nat.le_of_ble_eq_true rfl) (by decide) (by decide) hRc hRs d_Lw_want_7) hF rfl (List.forall_mem_cons.mpr ⟨⟨by decide, "java/lang/IndexOutOfBoundsException", wt_197, by decide +kernel⟩, List.forall_mem_cons.mpr ⟨⟨by decide, "java/lang/IllegalArgumentException", wt_311, by decide +kernel⟩, fun _ h => absurd h List.not_mem_nil⟩⟩) (by decide) (by decide) (by decide) wt_198 wt_286 (fun q H locs hP hF => ?_)
      refine lv_astore hx hb d_Lw_want_23 hl (Nat.lt_of_lt_of_le (Nat.lt_succ_self _) (Nat.le_of_ble_eq_true rfl)) rfl (fun ls hl => ?_)
      have hl : lv_has ls 6 [(5, .ref q), (0, .ref (L.2.1 0 r0)), (1, .int x1), (2, .int x2), (3, .int x3), (4, .ref (L.2.1 50 r4))] := hl
      refine lv_iconst (v := 3) hx hb d_Lw_want_25 (by decide) ?_
      cases h
      exact mm_ret1 hx hb hr hlk hP hF (by decide) (by decide) d_Lw_want_26
    have h := mm_neg hc3 h
    cases h
set_option maxRecDepth 100000 in
set_option maxHeartbeats 4000000 in
theorem c_Lw_want {l : Launch} {L : mm_L} {g g' : mm_M} {v : Int32} {r0 : Nat} {x1 : Int32} {x2 : Int32} {x3 : Int32} {r4 : Nat} (hv_r0 : mm_lv L.1 0 r0) (hv_r4 : mm_lv L.1 50 r4) (h : f_Lw_want L.1 g r0 x1 x2 x3 r4 = some (v, g')) : mm_C1 l y_Lw_want method_4_code 6 (some .int) [(0, 12, 15, 13), (0, 12, 19, 21), (0, 12, 23, 15)] 8 127 L [.ref (L.2.1 0 r0), .int x1, .int x2, .int x3, .ref (L.2.1 50 r4)] g v g' := by
  intro p e R s m below meth c hX hP
  refine mm_enter (Nat.le_of_ble_eq_true rfl) fun ls hl => ?_
  exact w_Lw_want hX h hP (fun q hq => by cases hq) (lv_sub (l' := [(0, .ref (L.2.1 0 r0)), (1, .int x1), (2, .int x2), (3, .int x3), (4, .ref (L.2.1 50 r4))]) hl [0, 1, 2, 3, 4] rfl) hv_r0 hv_r4
def f_Lw_lend (n : Nat) (g : mm_M) (r0 : Nat) (x1 : Int32) (x2 : Int32) (r3 : Nat) : Option (Int32 × mm_M) :=
  mm_tc (f_LA_lend n g r0 x1 x2) (fun z1 g2 => mm_let (mm_st g2 50 0 0 z1) (fun g4 => some (0, g4))) (fun xe g2 => (if xe = 1 then some (1, g2) else (if xe = 3 then some (2, g2) else none)))
set_option maxRecDepth 100000 in
set_option maxHeartbeats 4000000 in
theorem w_Lw_lend {p : Program} {l : Launch} {e : Env} {R : Room} {s : State} {m : MethodId} {args : Array Value} {below : List Frame} {meth : Method} {c : Code} {L : mm_L} {v : Int32} {g' : mm_M} {g : mm_M} {r0 : Nat} {x1 : Int32} {x2 : Int32} {r3 : Nat} {H : Heap} {locs : List Loc} {ls : Array Slot} (hX : mm_Xh [(0, 10, 13, 13), (0, 10, 17, 15)] L method_5_code 5 "LoanArrowsLaw" (some .int) 8 126 p l R s m meth c) (h : f_Lw_lend L.1 g r0 x1 x2 r3 = some (v, g')) (hP : mm_P L g H) (hF : ∀ q ∈ locs, mm_F L q.base) (hl : lv_has ls 5 [(0, .ref (L.2.1 0 r0)), (1, .int x1), (2, .int x2), (3, .ref (L.2.1 50 r3))]) (hv_r0 : mm_lv L.1 0 r0) (hv_r3 : mm_lv L.1 50 r3) : W p l e R s m args below meth c H locs 0 0 (mm_Q1 below L s v g') (F0 m 0 ls []) := by
  have hX0 := hX
  obtain ⟨hx, hb, hml, hown, hr, hlk, hex, hRf, hRl, hRc, hRs, hJ, hK, hst, h00⟩ := hX0
  unfold f_Lw_lend at h
  refine lv_aload_n hx hb d_Lw_lend_0 rfl (lv_at hl 3 rfl) ?_
  refine lv_iconst (v := 0) hx hb d_Lw_lend_1 (by decide) ?_
  refine lv_aload_n hx hb d_Lw_lend_2 rfl (lv_at hl 0 rfl) ?_
  refine lv_iload_n hx hb d_Lw_lend_3 rfl (lv_at hl 1 rfl) ?_
  refine lv_iload_n hx hb d_Lw_lend_4 rfl (lv_at hl 2 rfl) ?_
  rcases mm_tc_some h with ⟨z1, g2, hf3, h⟩ | ⟨xe, z1, g2, hf3, h⟩
  · refine mm_goR (v := (some (.int z1))) (mm_goV (As := [.int x1, .int x2]) (rest := [.int 0, .ref (L.2.1 50 r3)]) hX (c_LA_lend hv_r0 hf3) yw_LA_lend wt_394 wt_395 wt_396 hP hF (mm_recv (h := 0) (i := r0) hX hP hv_r0 rfl rfl) rfl hl.1 (Nat.le_of_ble_eq_true rfl) (by decide) (by decide) hRc hRs d_Lw_lend_5) hF (fun H locs hP hF _ => ?_)
    refine lv_i2l hx hb d_Lw_lend_8 rfl ?_
    obtain rfl : r3 = 0 := hv_r3
    refine mm_last (x := z1) hX hP hF d_Lw_lend_9 (fun H locs hP hF => ?_)
    obtain ⟨g4, e5, h⟩ := mm_let_ex h
    have hP : mm_P L g4 H := by rw [e5]; exact hP
    refine lv_goto (tgt := 21) hx hb d_Lw_lend_10 rfl ?_
    refine lv_iconst (v := 0) hx hb d_Lw_lend_21 (by decide) ?_
    cases h
    exact mm_ret1 hx hb hr hlk hP hF (by decide) (by decide) d_Lw_lend_22
  · have h := h
    by_cases hc1 : xe + 1 = 1
    · have h := mm_pos hc1 h
      obtain rfl : xe = 0 := by omega
      refine mm_goC (x := 1) (pre := []) (suf := [(0, 10, 17, 15)]) hX (mm_goV (As := [.int x1, .int x2]) (rest := [.int 0, .ref (L.2.1 50 r3)]) hX (c_LA_lend hv_r0 hf3) yw_LA_lend wt_394 wt_395 wt_396 hP hF (mm_recv (h := 0) (i := r0) hX hP hv_r0 rfl rfl) rfl hl.1 (Nat.le_of_ble_eq_true rfl) (by decide) (by decide) hRc hRs d_Lw_lend_5) hF rfl (fun _ h => absurd h List.not_mem_nil) (by decide) (by decide) (by decide) wt_197 wt_209 (fun q H locs hP hF => ?_)
      refine lv_astore hx hb d_Lw_lend_13 hl (Nat.lt_of_lt_of_le (Nat.lt_succ_self _) (Nat.le_of_ble_eq_true rfl)) rfl (fun ls hl => ?_)
      have hl : lv_has ls 5 [(4, .ref q), (0, .ref (L.2.1 0 r0)), (1, .int x1), (2, .int x2), (3, .ref (L.2.1 50 r3))] := hl
      refine lv_iconst (v := 1) hx hb d_Lw_lend_15 (by decide) ?_
      cases h
      exact mm_ret1 hx hb hr hlk hP hF (by decide) (by decide) d_Lw_lend_16
    have h := mm_neg hc1 h
    by_cases hc3 : xe + 1 = 3
    · have h := mm_pos hc3 h
      obtain rfl : xe = 2 := by omega
      refine mm_goC (x := 3) (pre := [(0, 10, 13, 13)]) (suf := []) hX (mm_goV (As := [.int x1, .int x2]) (rest := [.int 0, .ref (L.2.1 50 r3)]) hX (c_LA_lend hv_r0 hf3) yw_LA_lend wt_394 wt_395 wt_396 hP hF (mm_recv (h := 0) (i := r0) hX hP hv_r0 rfl rfl) rfl hl.1 (Nat.le_of_ble_eq_true rfl) (by decide) (by decide) hRc hRs d_Lw_lend_5) hF rfl (List.forall_mem_cons.mpr ⟨⟨by decide, "java/lang/IndexOutOfBoundsException", wt_197, by decide +kernel⟩, fun _ h => absurd h List.not_mem_nil⟩) (by decide) (by decide) (by decide) wt_198 wt_286 (fun q H locs hP hF => ?_)
      refine lv_astore hx hb d_Lw_lend_17 hl (Nat.lt_of_lt_of_le (Nat.lt_succ_self _) (Nat.le_of_ble_eq_true rfl)) rfl (fun ls hl => ?_)
      have hl : lv_has ls 5 [(4, .ref q), (0, .ref (L.2.1 0 r0)), (1, .int x1), (2, .int x2), (3, .ref (L.2.1 50 r3))] := hl
      refine lv_iconst (v := 2) hx hb d_Lw_lend_19 (by decide) ?_
      cases h
      exact mm_ret1 hx hb hr hlk hP hF (by decide) (by decide) d_Lw_lend_20
    have h := mm_neg hc3 h
    cases h
set_option maxRecDepth 100000 in
set_option maxHeartbeats 4000000 in
theorem c_Lw_lend {l : Launch} {L : mm_L} {g g' : mm_M} {v : Int32} {r0 : Nat} {x1 : Int32} {x2 : Int32} {r3 : Nat} (hv_r0 : mm_lv L.1 0 r0) (hv_r3 : mm_lv L.1 50 r3) (h : f_Lw_lend L.1 g r0 x1 x2 r3 = some (v, g')) : mm_C1 l y_Lw_lend method_5_code 5 (some .int) [(0, 10, 13, 13), (0, 10, 17, 15)] 8 126 L [.ref (L.2.1 0 r0), .int x1, .int x2, .ref (L.2.1 50 r3)] g v g' := by
  intro p e R s m below meth c hX hP
  refine mm_enter (Nat.le_of_ble_eq_true rfl) fun ls hl => ?_
  exact w_Lw_lend hX h hP (fun q hq => by cases hq) (lv_sub (l' := [(0, .ref (L.2.1 0 r0)), (1, .int x1), (2, .int x2), (3, .ref (L.2.1 50 r3))]) hl [0, 1, 2, 3] rfl) hv_r0 hv_r3
def f_Lw_giveBack (n : Nat) (g : mm_M) (r0 : Nat) (x1 : Int32) (x2 : Int32) (r3 : Nat) : Option (Int32 × mm_M) :=
  mm_tc (f_LA_giveBack n g r0 x1 x2) (fun z1 g2 => mm_let (mm_st g2 50 0 0 z1) (fun g4 => some (0, g4))) (fun xe g2 => (if xe = 1 then some (1, g2) else (if xe = 3 then some (2, g2) else none)))
set_option maxRecDepth 100000 in
set_option maxHeartbeats 4000000 in
theorem w_Lw_giveBack {p : Program} {l : Launch} {e : Env} {R : Room} {s : State} {m : MethodId} {args : Array Value} {below : List Frame} {meth : Method} {c : Code} {L : mm_L} {v : Int32} {g' : mm_M} {g : mm_M} {r0 : Nat} {x1 : Int32} {x2 : Int32} {r3 : Nat} {H : Heap} {locs : List Loc} {ls : Array Slot} (hX : mm_Xh [(0, 10, 13, 13), (0, 10, 17, 15)] L method_6_code 5 "LoanArrowsLaw" (some .int) 8 126 p l R s m meth c) (h : f_Lw_giveBack L.1 g r0 x1 x2 r3 = some (v, g')) (hP : mm_P L g H) (hF : ∀ q ∈ locs, mm_F L q.base) (hl : lv_has ls 5 [(0, .ref (L.2.1 0 r0)), (1, .int x1), (2, .int x2), (3, .ref (L.2.1 50 r3))]) (hv_r0 : mm_lv L.1 0 r0) (hv_r3 : mm_lv L.1 50 r3) : W p l e R s m args below meth c H locs 0 0 (mm_Q1 below L s v g') (F0 m 0 ls []) := by
  have hX0 := hX
  obtain ⟨hx, hb, hml, hown, hr, hlk, hex, hRf, hRl, hRc, hRs, hJ, hK, hst, h00⟩ := hX0
  unfold f_Lw_giveBack at h
  refine lv_aload_n hx hb d_Lw_giveBack_0 rfl (lv_at hl 3 rfl) ?_
  refine lv_iconst (v := 0) hx hb d_Lw_giveBack_1 (by decide) ?_
  refine lv_aload_n hx hb d_Lw_giveBack_2 rfl (lv_at hl 0 rfl) ?_
  refine lv_iload_n hx hb d_Lw_giveBack_3 rfl (lv_at hl 1 rfl) ?_
  refine lv_iload_n hx hb d_Lw_giveBack_4 rfl (lv_at hl 2 rfl) ?_
  rcases mm_tc_some h with ⟨z1, g2, hf3, h⟩ | ⟨xe, z1, g2, hf3, h⟩
  · refine mm_goR (v := (some (.int z1))) (mm_goV (As := [.int x1, .int x2]) (rest := [.int 0, .ref (L.2.1 50 r3)]) hX (c_LA_giveBack hv_r0 hf3) yw_LA_giveBack wt_416 wt_417 wt_418 hP hF (mm_recv (h := 0) (i := r0) hX hP hv_r0 rfl rfl) rfl hl.1 (Nat.le_of_ble_eq_true rfl) (by decide) (by decide) hRc hRs d_Lw_giveBack_5) hF (fun H locs hP hF _ => ?_)
    refine lv_i2l hx hb d_Lw_giveBack_8 rfl ?_
    obtain rfl : r3 = 0 := hv_r3
    refine mm_last (x := z1) hX hP hF d_Lw_giveBack_9 (fun H locs hP hF => ?_)
    obtain ⟨g4, e5, h⟩ := mm_let_ex h
    have hP : mm_P L g4 H := by rw [e5]; exact hP
    refine lv_goto (tgt := 21) hx hb d_Lw_giveBack_10 rfl ?_
    refine lv_iconst (v := 0) hx hb d_Lw_giveBack_21 (by decide) ?_
    cases h
    exact mm_ret1 hx hb hr hlk hP hF (by decide) (by decide) d_Lw_giveBack_22
  · have h := h
    by_cases hc1 : xe + 1 = 1
    · have h := mm_pos hc1 h
      obtain rfl : xe = 0 := by omega
      refine mm_goC (x := 1) (pre := []) (suf := [(0, 10, 17, 15)]) hX (mm_goV (As := [.int x1, .int x2]) (rest := [.int 0, .ref (L.2.1 50 r3)]) hX (c_LA_giveBack hv_r0 hf3) yw_LA_giveBack wt_416 wt_417 wt_418 hP hF (mm_recv (h := 0) (i := r0) hX hP hv_r0 rfl rfl) rfl hl.1 (Nat.le_of_ble_eq_true rfl) (by decide) (by decide) hRc hRs d_Lw_giveBack_5) hF rfl (fun _ h => absurd h List.not_mem_nil) (by decide) (by decide) (by decide) wt_197 wt_209 (fun q H locs hP hF => ?_)
      refine lv_astore hx hb d_Lw_giveBack_13 hl (Nat.lt_of_lt_of_le (Nat.lt_succ_self _) (Nat.le_of_ble_eq_true rfl)) rfl (fun ls hl => ?_)
      have hl : lv_has ls 5 [(4, .ref q), (0, .ref (L.2.1 0 r0)), (1, .int x1), (2, .int x2), (3, .ref (L.2.1 50 r3))] := hl
      refine lv_iconst (v := 1) hx hb d_Lw_giveBack_15 (by decide) ?_
      cases h
      exact mm_ret1 hx hb hr hlk hP hF (by decide) (by decide) d_Lw_giveBack_16
    have h := mm_neg hc1 h
    by_cases hc3 : xe + 1 = 3
    · have h := mm_pos hc3 h
      obtain rfl : xe = 2 := by omega
      refine mm_goC (x := 3) (pre := [(0, 10, 13, 13)]) (suf := []) hX (mm_goV (As := [.int x1, .int x2]) (rest := [.int 0, .ref (L.2.1 50 r3)]) hX (c_LA_giveBack hv_r0 hf3) yw_LA_giveBack wt_416 wt_417 wt_418 hP hF (mm_recv (h := 0) (i := r0) hX hP hv_r0 rfl rfl) rfl hl.1 (Nat.le_of_ble_eq_true rfl) (by decide) (by decide) hRc hRs d_Lw_giveBack_5) hF rfl (List.forall_mem_cons.mpr ⟨⟨by decide, "java/lang/IndexOutOfBoundsException", wt_197, by decide +kernel⟩, fun _ h => absurd h List.not_mem_nil⟩) (by decide) (by decide) (by decide) wt_198 wt_286 (fun q H locs hP hF => ?_)
      refine lv_astore hx hb d_Lw_giveBack_17 hl (Nat.lt_of_lt_of_le (Nat.lt_succ_self _) (Nat.le_of_ble_eq_true rfl)) rfl (fun ls hl => ?_)
      have hl : lv_has ls 5 [(4, .ref q), (0, .ref (L.2.1 0 r0)), (1, .int x1), (2, .int x2), (3, .ref (L.2.1 50 r3))] := hl
      refine lv_iconst (v := 2) hx hb d_Lw_giveBack_19 (by decide) ?_
      cases h
      exact mm_ret1 hx hb hr hlk hP hF (by decide) (by decide) d_Lw_giveBack_20
    have h := mm_neg hc3 h
    cases h
set_option maxRecDepth 100000 in
set_option maxHeartbeats 4000000 in
theorem c_Lw_giveBack {l : Launch} {L : mm_L} {g g' : mm_M} {v : Int32} {r0 : Nat} {x1 : Int32} {x2 : Int32} {r3 : Nat} (hv_r0 : mm_lv L.1 0 r0) (hv_r3 : mm_lv L.1 50 r3) (h : f_Lw_giveBack L.1 g r0 x1 x2 r3 = some (v, g')) : mm_C1 l y_Lw_giveBack method_6_code 5 (some .int) [(0, 10, 13, 13), (0, 10, 17, 15)] 8 126 L [.ref (L.2.1 0 r0), .int x1, .int x2, .ref (L.2.1 50 r3)] g v g' := by
  intro p e R s m below meth c hX hP
  refine mm_enter (Nat.le_of_ble_eq_true rfl) fun ls hl => ?_
  exact w_Lw_giveBack hX h hP (fun q hq => by cases hq) (lv_sub (l' := [(0, .ref (L.2.1 0 r0)), (1, .int x1), (2, .int x2), (3, .ref (L.2.1 50 r3))]) hl [0, 1, 2, 3] rfl) hv_r0 hv_r3
def f_Lw_van (n : Nat) (g : mm_M) (r0 : Nat) (x1 : Int32) (r2 : Nat) : Option (Int32 × mm_M) :=
  mm_tc (f_LA_van n g r0 x1) (fun z1 g2 => mm_let (mm_st g2 50 0 0 z1) (fun g4 => some (0, g4))) (fun xe g2 => (if xe = 1 then some (1, g2) else (if xe = 3 then some (2, g2) else none)))
set_option maxRecDepth 100000 in
set_option maxHeartbeats 4000000 in
theorem w_Lw_van {p : Program} {l : Launch} {e : Env} {R : Room} {s : State} {m : MethodId} {args : Array Value} {below : List Frame} {meth : Method} {c : Code} {L : mm_L} {v : Int32} {g' : mm_M} {g : mm_M} {r0 : Nat} {x1 : Int32} {r2 : Nat} {H : Heap} {locs : List Loc} {ls : Array Slot} (hX : mm_Xh [(0, 9, 12, 13), (0, 9, 15, 15)] L method_7_code 4 "LoanArrowsLaw" (some .int) 8 124 p l R s m meth c) (h : f_Lw_van L.1 g r0 x1 r2 = some (v, g')) (hP : mm_P L g H) (hF : ∀ q ∈ locs, mm_F L q.base) (hl : lv_has ls 4 [(0, .ref (L.2.1 0 r0)), (1, .int x1), (2, .ref (L.2.1 50 r2))]) (hv_r0 : mm_lv L.1 0 r0) (hv_r2 : mm_lv L.1 50 r2) : W p l e R s m args below meth c H locs 0 0 (mm_Q1 below L s v g') (F0 m 0 ls []) := by
  have hX0 := hX
  obtain ⟨hx, hb, hml, hown, hr, hlk, hex, hRf, hRl, hRc, hRs, hJ, hK, hst, h00⟩ := hX0
  unfold f_Lw_van at h
  refine lv_aload_n hx hb d_Lw_van_0 rfl (lv_at hl 2 rfl) ?_
  refine lv_iconst (v := 0) hx hb d_Lw_van_1 (by decide) ?_
  refine lv_aload_n hx hb d_Lw_van_2 rfl (lv_at hl 0 rfl) ?_
  refine lv_iload_n hx hb d_Lw_van_3 rfl (lv_at hl 1 rfl) ?_
  rcases mm_tc_some h with ⟨z1, g2, hf3, h⟩ | ⟨xe, z1, g2, hf3, h⟩
  · refine mm_goR (v := (some (.int z1))) (mm_goV (As := [.int x1]) (rest := [.int 0, .ref (L.2.1 50 r2)]) hX (c_LA_van hv_r0 hf3) yw_LA_van wt_431 wt_432 wt_433 hP hF (mm_recv (h := 0) (i := r0) hX hP hv_r0 rfl rfl) rfl hl.1 (Nat.le_of_ble_eq_true rfl) (by decide) (by decide) hRc hRs d_Lw_van_4) hF (fun H locs hP hF _ => ?_)
    refine lv_i2l hx hb d_Lw_van_7 rfl ?_
    obtain rfl : r2 = 0 := hv_r2
    refine mm_last (x := z1) hX hP hF d_Lw_van_8 (fun H locs hP hF => ?_)
    obtain ⟨g4, e5, h⟩ := mm_let_ex h
    have hP : mm_P L g4 H := by rw [e5]; exact hP
    refine lv_goto (tgt := 18) hx hb d_Lw_van_9 rfl ?_
    refine lv_iconst (v := 0) hx hb d_Lw_van_18 (by decide) ?_
    cases h
    exact mm_ret1 hx hb hr hlk hP hF (by decide) (by decide) d_Lw_van_19
  · have h := h
    by_cases hc1 : xe + 1 = 1
    · have h := mm_pos hc1 h
      obtain rfl : xe = 0 := by omega
      refine mm_goC (x := 1) (pre := []) (suf := [(0, 9, 15, 15)]) hX (mm_goV (As := [.int x1]) (rest := [.int 0, .ref (L.2.1 50 r2)]) hX (c_LA_van hv_r0 hf3) yw_LA_van wt_431 wt_432 wt_433 hP hF (mm_recv (h := 0) (i := r0) hX hP hv_r0 rfl rfl) rfl hl.1 (Nat.le_of_ble_eq_true rfl) (by decide) (by decide) hRc hRs d_Lw_van_4) hF rfl (fun _ h => absurd h List.not_mem_nil) (by decide) (by decide) (by decide) wt_197 wt_209 (fun q H locs hP hF => ?_)
      refine lv_astore_n hx hb d_Lw_van_12 rfl hl (Nat.lt_of_lt_of_le (Nat.lt_succ_self _) (Nat.le_of_ble_eq_true rfl)) rfl (fun ls hl => ?_)
      have hl : lv_has ls 4 [(3, .ref q), (0, .ref (L.2.1 0 r0)), (1, .int x1), (2, .ref (L.2.1 50 r2))] := hl
      refine lv_iconst (v := 1) hx hb d_Lw_van_13 (by decide) ?_
      cases h
      exact mm_ret1 hx hb hr hlk hP hF (by decide) (by decide) d_Lw_van_14
    have h := mm_neg hc1 h
    by_cases hc3 : xe + 1 = 3
    · have h := mm_pos hc3 h
      obtain rfl : xe = 2 := by omega
      refine mm_goC (x := 3) (pre := [(0, 9, 12, 13)]) (suf := []) hX (mm_goV (As := [.int x1]) (rest := [.int 0, .ref (L.2.1 50 r2)]) hX (c_LA_van hv_r0 hf3) yw_LA_van wt_431 wt_432 wt_433 hP hF (mm_recv (h := 0) (i := r0) hX hP hv_r0 rfl rfl) rfl hl.1 (Nat.le_of_ble_eq_true rfl) (by decide) (by decide) hRc hRs d_Lw_van_4) hF rfl (List.forall_mem_cons.mpr ⟨⟨by decide, "java/lang/IndexOutOfBoundsException", wt_197, by decide +kernel⟩, fun _ h => absurd h List.not_mem_nil⟩) (by decide) (by decide) (by decide) wt_198 wt_286 (fun q H locs hP hF => ?_)
      refine lv_astore_n hx hb d_Lw_van_15 rfl hl (Nat.lt_of_lt_of_le (Nat.lt_succ_self _) (Nat.le_of_ble_eq_true rfl)) rfl (fun ls hl => ?_)
      have hl : lv_has ls 4 [(3, .ref q), (0, .ref (L.2.1 0 r0)), (1, .int x1), (2, .ref (L.2.1 50 r2))] := hl
      refine lv_iconst (v := 2) hx hb d_Lw_van_16 (by decide) ?_
      cases h
      exact mm_ret1 hx hb hr hlk hP hF (by decide) (by decide) d_Lw_van_17
    have h := mm_neg hc3 h
    cases h
set_option maxRecDepth 100000 in
set_option maxHeartbeats 4000000 in
theorem c_Lw_van {l : Launch} {L : mm_L} {g g' : mm_M} {v : Int32} {r0 : Nat} {x1 : Int32} {r2 : Nat} (hv_r0 : mm_lv L.1 0 r0) (hv_r2 : mm_lv L.1 50 r2) (h : f_Lw_van L.1 g r0 x1 r2 = some (v, g')) : mm_C1 l y_Lw_van method_7_code 4 (some .int) [(0, 9, 12, 13), (0, 9, 15, 15)] 8 124 L [.ref (L.2.1 0 r0), .int x1, .ref (L.2.1 50 r2)] g v g' := by
  intro p e R s m below meth c hX hP
  refine mm_enter (Nat.le_of_ble_eq_true rfl) fun ls hl => ?_
  exact w_Lw_van hX h hP (fun q hq => by cases hq) (lv_sub (l' := [(0, .ref (L.2.1 0 r0)), (1, .int x1), (2, .ref (L.2.1 50 r2))]) hl [0, 1, 2] rfl) hv_r0 hv_r2
def f_Lw_sendAll (n : Nat) (g : mm_M) (r0 : Nat) (x1 : Int32) (r2 : Nat) : Option (Int32 × mm_M) :=
  mm_tc (f_LA_sendAll n g r0 x1) (fun z1 g2 => mm_let (mm_st g2 50 0 0 z1) (fun g4 => some (0, g4))) (fun xe g2 => (if xe = 1 then some (1, g2) else (if xe = 3 then some (2, g2) else none)))
set_option maxRecDepth 100000 in
set_option maxHeartbeats 4000000 in
theorem w_Lw_sendAll {p : Program} {l : Launch} {e : Env} {R : Room} {s : State} {m : MethodId} {args : Array Value} {below : List Frame} {meth : Method} {c : Code} {L : mm_L} {v : Int32} {g' : mm_M} {g : mm_M} {r0 : Nat} {x1 : Int32} {r2 : Nat} {H : Heap} {locs : List Loc} {ls : Array Slot} (hX : mm_Xh [(0, 9, 12, 13), (0, 9, 15, 15)] L method_8_code 4 "LoanArrowsLaw" (some .int) 8 124 p l R s m meth c) (h : f_Lw_sendAll L.1 g r0 x1 r2 = some (v, g')) (hP : mm_P L g H) (hF : ∀ q ∈ locs, mm_F L q.base) (hl : lv_has ls 4 [(0, .ref (L.2.1 0 r0)), (1, .int x1), (2, .ref (L.2.1 50 r2))]) (hv_r0 : mm_lv L.1 0 r0) (hv_r2 : mm_lv L.1 50 r2) : W p l e R s m args below meth c H locs 0 0 (mm_Q1 below L s v g') (F0 m 0 ls []) := by
  have hX0 := hX
  obtain ⟨hx, hb, hml, hown, hr, hlk, hex, hRf, hRl, hRc, hRs, hJ, hK, hst, h00⟩ := hX0
  unfold f_Lw_sendAll at h
  refine lv_aload_n hx hb d_Lw_sendAll_0 rfl (lv_at hl 2 rfl) ?_
  refine lv_iconst (v := 0) hx hb d_Lw_sendAll_1 (by decide) ?_
  refine lv_aload_n hx hb d_Lw_sendAll_2 rfl (lv_at hl 0 rfl) ?_
  refine lv_iload_n hx hb d_Lw_sendAll_3 rfl (lv_at hl 1 rfl) ?_
  rcases mm_tc_some h with ⟨z1, g2, hf3, h⟩ | ⟨xe, z1, g2, hf3, h⟩
  · refine mm_goR (v := (some (.int z1))) (mm_goV (As := [.int x1]) (rest := [.int 0, .ref (L.2.1 50 r2)]) hX (c_LA_sendAll hv_r0 hf3) yw_LA_sendAll wt_443 wt_444 wt_445 hP hF (mm_recv (h := 0) (i := r0) hX hP hv_r0 rfl rfl) rfl hl.1 (Nat.le_of_ble_eq_true rfl) (by decide) (by decide) hRc hRs d_Lw_sendAll_4) hF (fun H locs hP hF _ => ?_)
    refine lv_i2l hx hb d_Lw_sendAll_7 rfl ?_
    obtain rfl : r2 = 0 := hv_r2
    refine mm_last (x := z1) hX hP hF d_Lw_sendAll_8 (fun H locs hP hF => ?_)
    obtain ⟨g4, e5, h⟩ := mm_let_ex h
    have hP : mm_P L g4 H := by rw [e5]; exact hP
    refine lv_goto (tgt := 18) hx hb d_Lw_sendAll_9 rfl ?_
    refine lv_iconst (v := 0) hx hb d_Lw_sendAll_18 (by decide) ?_
    cases h
    exact mm_ret1 hx hb hr hlk hP hF (by decide) (by decide) d_Lw_sendAll_19
  · have h := h
    by_cases hc1 : xe + 1 = 1
    · have h := mm_pos hc1 h
      obtain rfl : xe = 0 := by omega
      refine mm_goC (x := 1) (pre := []) (suf := [(0, 9, 15, 15)]) hX (mm_goV (As := [.int x1]) (rest := [.int 0, .ref (L.2.1 50 r2)]) hX (c_LA_sendAll hv_r0 hf3) yw_LA_sendAll wt_443 wt_444 wt_445 hP hF (mm_recv (h := 0) (i := r0) hX hP hv_r0 rfl rfl) rfl hl.1 (Nat.le_of_ble_eq_true rfl) (by decide) (by decide) hRc hRs d_Lw_sendAll_4) hF rfl (fun _ h => absurd h List.not_mem_nil) (by decide) (by decide) (by decide) wt_197 wt_209 (fun q H locs hP hF => ?_)
      refine lv_astore_n hx hb d_Lw_sendAll_12 rfl hl (Nat.lt_of_lt_of_le (Nat.lt_succ_self _) (Nat.le_of_ble_eq_true rfl)) rfl (fun ls hl => ?_)
      have hl : lv_has ls 4 [(3, .ref q), (0, .ref (L.2.1 0 r0)), (1, .int x1), (2, .ref (L.2.1 50 r2))] := hl
      refine lv_iconst (v := 1) hx hb d_Lw_sendAll_13 (by decide) ?_
      cases h
      exact mm_ret1 hx hb hr hlk hP hF (by decide) (by decide) d_Lw_sendAll_14
    have h := mm_neg hc1 h
    by_cases hc3 : xe + 1 = 3
    · have h := mm_pos hc3 h
      obtain rfl : xe = 2 := by omega
      refine mm_goC (x := 3) (pre := [(0, 9, 12, 13)]) (suf := []) hX (mm_goV (As := [.int x1]) (rest := [.int 0, .ref (L.2.1 50 r2)]) hX (c_LA_sendAll hv_r0 hf3) yw_LA_sendAll wt_443 wt_444 wt_445 hP hF (mm_recv (h := 0) (i := r0) hX hP hv_r0 rfl rfl) rfl hl.1 (Nat.le_of_ble_eq_true rfl) (by decide) (by decide) hRc hRs d_Lw_sendAll_4) hF rfl (List.forall_mem_cons.mpr ⟨⟨by decide, "java/lang/IndexOutOfBoundsException", wt_197, by decide +kernel⟩, fun _ h => absurd h List.not_mem_nil⟩) (by decide) (by decide) (by decide) wt_198 wt_286 (fun q H locs hP hF => ?_)
      refine lv_astore_n hx hb d_Lw_sendAll_15 rfl hl (Nat.lt_of_lt_of_le (Nat.lt_succ_self _) (Nat.le_of_ble_eq_true rfl)) rfl (fun ls hl => ?_)
      have hl : lv_has ls 4 [(3, .ref q), (0, .ref (L.2.1 0 r0)), (1, .int x1), (2, .ref (L.2.1 50 r2))] := hl
      refine lv_iconst (v := 2) hx hb d_Lw_sendAll_16 (by decide) ?_
      cases h
      exact mm_ret1 hx hb hr hlk hP hF (by decide) (by decide) d_Lw_sendAll_17
    have h := mm_neg hc3 h
    cases h
set_option maxRecDepth 100000 in
set_option maxHeartbeats 4000000 in
theorem c_Lw_sendAll {l : Launch} {L : mm_L} {g g' : mm_M} {v : Int32} {r0 : Nat} {x1 : Int32} {r2 : Nat} (hv_r0 : mm_lv L.1 0 r0) (hv_r2 : mm_lv L.1 50 r2) (h : f_Lw_sendAll L.1 g r0 x1 r2 = some (v, g')) : mm_C1 l y_Lw_sendAll method_8_code 4 (some .int) [(0, 9, 12, 13), (0, 9, 15, 15)] 8 124 L [.ref (L.2.1 0 r0), .int x1, .ref (L.2.1 50 r2)] g v g' := by
  intro p e R s m below meth c hX hP
  refine mm_enter (Nat.le_of_ble_eq_true rfl) fun ls hl => ?_
  exact w_Lw_sendAll hX h hP (fun q hq => by cases hq) (lv_sub (l' := [(0, .ref (L.2.1 0 r0)), (1, .int x1), (2, .ref (L.2.1 50 r2))]) hl [0, 1, 2] rfl) hv_r0 hv_r2
def f_Lw_packet (n : Nat) (g : mm_M) (r0 : Nat) (x1 : Int32) (x2 : Int32) (r3 : Nat) : Option (Int32 × mm_M) :=
  mm_tc (f_LA_packet n g r0 x1 x2) (fun z1 g2 => mm_let (mm_st g2 50 0 0 z1) (fun g4 => some (0, g4))) (fun xe g2 => (if xe = 1 then some (1, g2) else none))
set_option maxRecDepth 100000 in
set_option maxHeartbeats 4000000 in
theorem w_Lw_packet {p : Program} {l : Launch} {e : Env} {R : Room} {s : State} {m : MethodId} {args : Array Value} {below : List Frame} {meth : Method} {c : Code} {L : mm_L} {v : Int32} {g' : mm_M} {g : mm_M} {r0 : Nat} {x1 : Int32} {x2 : Int32} {r3 : Nat} {H : Heap} {locs : List Loc} {ls : Array Slot} (hX : mm_Xh [(0, 10, 13, 13)] L method_9_code 5 "LoanArrowsLaw" (some .int) 8 125 p l R s m meth c) (h : f_Lw_packet L.1 g r0 x1 x2 r3 = some (v, g')) (hP : mm_P L g H) (hF : ∀ q ∈ locs, mm_F L q.base) (hl : lv_has ls 5 [(0, .ref (L.2.1 0 r0)), (1, .int x1), (2, .int x2), (3, .ref (L.2.1 50 r3))]) (hv_r0 : mm_lv L.1 0 r0) (hv_r3 : mm_lv L.1 50 r3) : W p l e R s m args below meth c H locs 0 0 (mm_Q1 below L s v g') (F0 m 0 ls []) := by
  have hX0 := hX
  obtain ⟨hx, hb, hml, hown, hr, hlk, hex, hRf, hRl, hRc, hRs, hJ, hK, hst, h00⟩ := hX0
  unfold f_Lw_packet at h
  refine lv_aload_n hx hb d_Lw_packet_0 rfl (lv_at hl 3 rfl) ?_
  refine lv_iconst (v := 0) hx hb d_Lw_packet_1 (by decide) ?_
  refine lv_aload_n hx hb d_Lw_packet_2 rfl (lv_at hl 0 rfl) ?_
  refine lv_iload_n hx hb d_Lw_packet_3 rfl (lv_at hl 1 rfl) ?_
  refine lv_iload_n hx hb d_Lw_packet_4 rfl (lv_at hl 2 rfl) ?_
  rcases mm_tc_some h with ⟨z1, g2, hf3, h⟩ | ⟨xe, z1, g2, hf3, h⟩
  · refine mm_goR (v := (some (.int z1))) (mm_goV (As := [.int x1, .int x2]) (rest := [.int 0, .ref (L.2.1 50 r3)]) hX (c_LA_packet hv_r0 hf3) yw_LA_packet wt_459 wt_460 wt_461 hP hF (mm_recv (h := 0) (i := r0) hX hP hv_r0 rfl rfl) rfl hl.1 (Nat.le_of_ble_eq_true rfl) (by decide) (by decide) hRc hRs d_Lw_packet_5) hF (fun H locs hP hF _ => ?_)
    refine lv_i2l hx hb d_Lw_packet_8 rfl ?_
    obtain rfl : r3 = 0 := hv_r3
    refine mm_last (x := z1) hX hP hF d_Lw_packet_9 (fun H locs hP hF => ?_)
    obtain ⟨g4, e5, h⟩ := mm_let_ex h
    have hP : mm_P L g4 H := by rw [e5]; exact hP
    refine lv_goto (tgt := 17) hx hb d_Lw_packet_10 rfl ?_
    refine lv_iconst (v := 0) hx hb d_Lw_packet_17 (by decide) ?_
    cases h
    exact mm_ret1 hx hb hr hlk hP hF (by decide) (by decide) d_Lw_packet_18
  · have h := h
    by_cases hc1 : xe + 1 = 1
    · have h := mm_pos hc1 h
      obtain rfl : xe = 0 := by omega
      refine mm_goC (x := 1) (pre := []) (suf := []) hX (mm_goV (As := [.int x1, .int x2]) (rest := [.int 0, .ref (L.2.1 50 r3)]) hX (c_LA_packet hv_r0 hf3) yw_LA_packet wt_459 wt_460 wt_461 hP hF (mm_recv (h := 0) (i := r0) hX hP hv_r0 rfl rfl) rfl hl.1 (Nat.le_of_ble_eq_true rfl) (by decide) (by decide) hRc hRs d_Lw_packet_5) hF rfl (fun _ h => absurd h List.not_mem_nil) (by decide) (by decide) (by decide) wt_197 wt_209 (fun q H locs hP hF => ?_)
      refine lv_astore hx hb d_Lw_packet_13 hl (Nat.lt_of_lt_of_le (Nat.lt_succ_self _) (Nat.le_of_ble_eq_true rfl)) rfl (fun ls hl => ?_)
      have hl : lv_has ls 5 [(4, .ref q), (0, .ref (L.2.1 0 r0)), (1, .int x1), (2, .int x2), (3, .ref (L.2.1 50 r3))] := hl
      refine lv_iconst (v := 1) hx hb d_Lw_packet_15 (by decide) ?_
      cases h
      exact mm_ret1 hx hb hr hlk hP hF (by decide) (by decide) d_Lw_packet_16
    have h := mm_neg hc1 h
    cases h
set_option maxRecDepth 100000 in
set_option maxHeartbeats 4000000 in
theorem c_Lw_packet {l : Launch} {L : mm_L} {g g' : mm_M} {v : Int32} {r0 : Nat} {x1 : Int32} {x2 : Int32} {r3 : Nat} (hv_r0 : mm_lv L.1 0 r0) (hv_r3 : mm_lv L.1 50 r3) (h : f_Lw_packet L.1 g r0 x1 x2 r3 = some (v, g')) : mm_C1 l y_Lw_packet method_9_code 5 (some .int) [(0, 10, 13, 13)] 8 125 L [.ref (L.2.1 0 r0), .int x1, .int x2, .ref (L.2.1 50 r3)] g v g' := by
  intro p e R s m below meth c hX hP
  refine mm_enter (Nat.le_of_ble_eq_true rfl) fun ls hl => ?_
  exact w_Lw_packet hX h hP (fun q hq => by cases hq) (lv_sub (l' := [(0, .ref (L.2.1 0 r0)), (1, .int x1), (2, .int x2), (3, .ref (L.2.1 50 r3))]) hl [0, 1, 2, 3] rfl) hv_r0 hv_r3
def f_Lw_deliver (n : Nat) (g : mm_M) (r0 : Nat) (x1 : Int32) (r2 : Nat) : Option (Int32 × mm_M) :=
  mm_tc (f_LA_deliver n g r0 x1) (fun z1 g2 => mm_let (mm_st g2 50 0 0 z1) (fun g4 => some (0, g4))) (fun xe g2 => (if xe = 1 then some (1, g2) else none))
set_option maxRecDepth 100000 in
set_option maxHeartbeats 4000000 in
theorem w_Lw_deliver {p : Program} {l : Launch} {e : Env} {R : Room} {s : State} {m : MethodId} {args : Array Value} {below : List Frame} {meth : Method} {c : Code} {L : mm_L} {v : Int32} {g' : mm_M} {g : mm_M} {r0 : Nat} {x1 : Int32} {r2 : Nat} {H : Heap} {locs : List Loc} {ls : Array Slot} (hX : mm_Xh [(0, 9, 12, 13)] L method_10_code 4 "LoanArrowsLaw" (some .int) 8 155 p l R s m meth c) (h : f_Lw_deliver L.1 g r0 x1 r2 = some (v, g')) (hP : mm_P L g H) (hF : ∀ q ∈ locs, mm_F L q.base) (hl : lv_has ls 4 [(0, .ref (L.2.1 0 r0)), (1, .int x1), (2, .ref (L.2.1 50 r2))]) (hv_r0 : mm_lv L.1 0 r0) (hv_r2 : mm_lv L.1 50 r2) : W p l e R s m args below meth c H locs 0 0 (mm_Q1 below L s v g') (F0 m 0 ls []) := by
  have hX0 := hX
  obtain ⟨hx, hb, hml, hown, hr, hlk, hex, hRf, hRl, hRc, hRs, hJ, hK, hst, h00⟩ := hX0
  unfold f_Lw_deliver at h
  refine lv_aload_n hx hb d_Lw_deliver_0 rfl (lv_at hl 2 rfl) ?_
  refine lv_iconst (v := 0) hx hb d_Lw_deliver_1 (by decide) ?_
  refine lv_aload_n hx hb d_Lw_deliver_2 rfl (lv_at hl 0 rfl) ?_
  refine lv_iload_n hx hb d_Lw_deliver_3 rfl (lv_at hl 1 rfl) ?_
  rcases mm_tc_some h with ⟨z1, g2, hf3, h⟩ | ⟨xe, z1, g2, hf3, h⟩
  · refine mm_goR (v := (some (.int z1))) (mm_goV (As := [.int x1]) (rest := [.int 0, .ref (L.2.1 50 r2)]) hX (c_LA_deliver hv_r0 hf3) yw_LA_deliver wt_476 wt_477 wt_478 hP hF (mm_recv (h := 0) (i := r0) hX hP hv_r0 rfl rfl) rfl hl.1 (Nat.le_of_ble_eq_true rfl) (by decide) (by decide) hRc hRs d_Lw_deliver_4) hF (fun H locs hP hF _ => ?_)
    refine lv_i2l hx hb d_Lw_deliver_7 rfl ?_
    obtain rfl : r2 = 0 := hv_r2
    refine mm_last (x := z1) hX hP hF d_Lw_deliver_8 (fun H locs hP hF => ?_)
    obtain ⟨g4, e5, h⟩ := mm_let_ex h
    have hP : mm_P L g4 H := by rw [e5]; exact hP
    refine lv_goto (tgt := 15) hx hb d_Lw_deliver_9 rfl ?_
    refine lv_iconst (v := 0) hx hb d_Lw_deliver_15 (by decide) ?_
    cases h
    exact mm_ret1 hx hb hr hlk hP hF (by decide) (by decide) d_Lw_deliver_16
  · have h := h
    by_cases hc1 : xe + 1 = 1
    · have h := mm_pos hc1 h
      obtain rfl : xe = 0 := by omega
      refine mm_goC (x := 1) (pre := []) (suf := []) hX (mm_goV (As := [.int x1]) (rest := [.int 0, .ref (L.2.1 50 r2)]) hX (c_LA_deliver hv_r0 hf3) yw_LA_deliver wt_476 wt_477 wt_478 hP hF (mm_recv (h := 0) (i := r0) hX hP hv_r0 rfl rfl) rfl hl.1 (Nat.le_of_ble_eq_true rfl) (by decide) (by decide) hRc hRs d_Lw_deliver_4) hF rfl (fun _ h => absurd h List.not_mem_nil) (by decide) (by decide) (by decide) wt_197 wt_209 (fun q H locs hP hF => ?_)
      refine lv_astore_n hx hb d_Lw_deliver_12 rfl hl (Nat.lt_of_lt_of_le (Nat.lt_succ_self _) (Nat.le_of_ble_eq_true rfl)) rfl (fun ls hl => ?_)
      have hl : lv_has ls 4 [(3, .ref q), (0, .ref (L.2.1 0 r0)), (1, .int x1), (2, .ref (L.2.1 50 r2))] := hl
      refine lv_iconst (v := 1) hx hb d_Lw_deliver_13 (by decide) ?_
      cases h
      exact mm_ret1 hx hb hr hlk hP hF (by decide) (by decide) d_Lw_deliver_14
    have h := mm_neg hc1 h
    cases h
set_option maxRecDepth 100000 in
set_option maxHeartbeats 4000000 in
theorem c_Lw_deliver {l : Launch} {L : mm_L} {g g' : mm_M} {v : Int32} {r0 : Nat} {x1 : Int32} {r2 : Nat} (hv_r0 : mm_lv L.1 0 r0) (hv_r2 : mm_lv L.1 50 r2) (h : f_Lw_deliver L.1 g r0 x1 r2 = some (v, g')) : mm_C1 l y_Lw_deliver method_10_code 4 (some .int) [(0, 9, 12, 13)] 8 155 L [.ref (L.2.1 0 r0), .int x1, .ref (L.2.1 50 r2)] g v g' := by
  intro p e R s m below meth c hX hP
  refine mm_enter (Nat.le_of_ble_eq_true rfl) fun ls hl => ?_
  exact w_Lw_deliver hX h hP (fun q hq => by cases hq) (lv_sub (l' := [(0, .ref (L.2.1 0 r0)), (1, .int x1), (2, .ref (L.2.1 50 r2))]) hl [0, 1, 2] rfl) hv_r0 hv_r2
def f_Lw_drop (n : Nat) (g : mm_M) (r0 : Nat) (x1 : Int32) (r2 : Nat) : Option (Int32 × mm_M) :=
  mm_tc (f_LA_drop n g r0 x1) (fun z1 g2 => mm_let (mm_st g2 50 0 0 z1) (fun g4 => some (0, g4))) (fun xe g2 => (if xe = 1 then some (1, g2) else none))
set_option maxRecDepth 100000 in
set_option maxHeartbeats 4000000 in
theorem w_Lw_drop {p : Program} {l : Launch} {e : Env} {R : Room} {s : State} {m : MethodId} {args : Array Value} {below : List Frame} {meth : Method} {c : Code} {L : mm_L} {v : Int32} {g' : mm_M} {g : mm_M} {r0 : Nat} {x1 : Int32} {r2 : Nat} {H : Heap} {locs : List Loc} {ls : Array Slot} (hX : mm_Xh [(0, 9, 12, 13)] L method_11_code 4 "LoanArrowsLaw" (some .int) 8 124 p l R s m meth c) (h : f_Lw_drop L.1 g r0 x1 r2 = some (v, g')) (hP : mm_P L g H) (hF : ∀ q ∈ locs, mm_F L q.base) (hl : lv_has ls 4 [(0, .ref (L.2.1 0 r0)), (1, .int x1), (2, .ref (L.2.1 50 r2))]) (hv_r0 : mm_lv L.1 0 r0) (hv_r2 : mm_lv L.1 50 r2) : W p l e R s m args below meth c H locs 0 0 (mm_Q1 below L s v g') (F0 m 0 ls []) := by
  have hX0 := hX
  obtain ⟨hx, hb, hml, hown, hr, hlk, hex, hRf, hRl, hRc, hRs, hJ, hK, hst, h00⟩ := hX0
  unfold f_Lw_drop at h
  refine lv_aload_n hx hb d_Lw_drop_0 rfl (lv_at hl 2 rfl) ?_
  refine lv_iconst (v := 0) hx hb d_Lw_drop_1 (by decide) ?_
  refine lv_aload_n hx hb d_Lw_drop_2 rfl (lv_at hl 0 rfl) ?_
  refine lv_iload_n hx hb d_Lw_drop_3 rfl (lv_at hl 1 rfl) ?_
  rcases mm_tc_some h with ⟨z1, g2, hf3, h⟩ | ⟨xe, z1, g2, hf3, h⟩
  · refine mm_goR (v := (some (.int z1))) (mm_goV (As := [.int x1]) (rest := [.int 0, .ref (L.2.1 50 r2)]) hX (c_LA_drop hv_r0 hf3) yw_LA_drop wt_516 wt_517 wt_518 hP hF (mm_recv (h := 0) (i := r0) hX hP hv_r0 rfl rfl) rfl hl.1 (Nat.le_of_ble_eq_true rfl) (by decide) (by decide) hRc hRs d_Lw_drop_4) hF (fun H locs hP hF _ => ?_)
    refine lv_i2l hx hb d_Lw_drop_7 rfl ?_
    obtain rfl : r2 = 0 := hv_r2
    refine mm_last (x := z1) hX hP hF d_Lw_drop_8 (fun H locs hP hF => ?_)
    obtain ⟨g4, e5, h⟩ := mm_let_ex h
    have hP : mm_P L g4 H := by rw [e5]; exact hP
    refine lv_goto (tgt := 15) hx hb d_Lw_drop_9 rfl ?_
    refine lv_iconst (v := 0) hx hb d_Lw_drop_15 (by decide) ?_
    cases h
    exact mm_ret1 hx hb hr hlk hP hF (by decide) (by decide) d_Lw_drop_16
  · have h := h
    by_cases hc1 : xe + 1 = 1
    · have h := mm_pos hc1 h
      obtain rfl : xe = 0 := by omega
      refine mm_goC (x := 1) (pre := []) (suf := []) hX (mm_goV (As := [.int x1]) (rest := [.int 0, .ref (L.2.1 50 r2)]) hX (c_LA_drop hv_r0 hf3) yw_LA_drop wt_516 wt_517 wt_518 hP hF (mm_recv (h := 0) (i := r0) hX hP hv_r0 rfl rfl) rfl hl.1 (Nat.le_of_ble_eq_true rfl) (by decide) (by decide) hRc hRs d_Lw_drop_4) hF rfl (fun _ h => absurd h List.not_mem_nil) (by decide) (by decide) (by decide) wt_197 wt_209 (fun q H locs hP hF => ?_)
      refine lv_astore_n hx hb d_Lw_drop_12 rfl hl (Nat.lt_of_lt_of_le (Nat.lt_succ_self _) (Nat.le_of_ble_eq_true rfl)) rfl (fun ls hl => ?_)
      have hl : lv_has ls 4 [(3, .ref q), (0, .ref (L.2.1 0 r0)), (1, .int x1), (2, .ref (L.2.1 50 r2))] := hl
      refine lv_iconst (v := 1) hx hb d_Lw_drop_13 (by decide) ?_
      cases h
      exact mm_ret1 hx hb hr hlk hP hF (by decide) (by decide) d_Lw_drop_14
    have h := mm_neg hc1 h
    cases h
set_option maxRecDepth 100000 in
set_option maxHeartbeats 4000000 in
theorem c_Lw_drop {l : Launch} {L : mm_L} {g g' : mm_M} {v : Int32} {r0 : Nat} {x1 : Int32} {r2 : Nat} (hv_r0 : mm_lv L.1 0 r0) (hv_r2 : mm_lv L.1 50 r2) (h : f_Lw_drop L.1 g r0 x1 r2 = some (v, g')) : mm_C1 l y_Lw_drop method_11_code 4 (some .int) [(0, 9, 12, 13)] 8 124 L [.ref (L.2.1 0 r0), .int x1, .ref (L.2.1 50 r2)] g v g' := by
  intro p e R s m below meth c hX hP
  refine mm_enter (Nat.le_of_ble_eq_true rfl) fun ls hl => ?_
  exact w_Lw_drop hX h hP (fun q hq => by cases hq) (lv_sub (l' := [(0, .ref (L.2.1 0 r0)), (1, .int x1), (2, .ref (L.2.1 50 r2))]) hl [0, 1, 2] rfl) hv_r0 hv_r2
def f_Lw_twin (n : Nat) (g : mm_M) (r0 : Nat) (x1 : Int32) (r2 : Nat) : Option (Int32 × mm_M) :=
  mm_tc (f_LA_twin n g r0 x1) (fun z1 g2 => (if z1 = 0 then mm_let (mm_st g2 50 0 0 0) (fun g4 => some (0, g4)) else mm_let (mm_st g2 50 0 0 1) (fun g6 => some (0, g6)))) (fun xe g2 => (if xe = 1 then some (1, g2) else none))
set_option maxRecDepth 100000 in
set_option maxHeartbeats 4000000 in
theorem w_Lw_twin {p : Program} {l : Launch} {e : Env} {R : Room} {s : State} {m : MethodId} {args : Array Value} {below : List Frame} {meth : Method} {c : Code} {L : mm_L} {v : Int32} {g' : mm_M} {g : mm_M} {r0 : Nat} {x1 : Int32} {r2 : Nat} {H : Heap} {locs : List Loc} {ls : Array Slot} (hX : mm_Xh [(0, 16, 19, 13)] L method_12_code 4 "LoanArrowsLaw" (some .int) 8 124 p l R s m meth c) (h : f_Lw_twin L.1 g r0 x1 r2 = some (v, g')) (hP : mm_P L g H) (hF : ∀ q ∈ locs, mm_F L q.base) (hl : lv_has ls 4 [(0, .ref (L.2.1 0 r0)), (1, .int x1), (2, .ref (L.2.1 50 r2))]) (hv_r0 : mm_lv L.1 0 r0) (hv_r2 : mm_lv L.1 50 r2) : W p l e R s m args below meth c H locs 0 0 (mm_Q1 below L s v g') (F0 m 0 ls []) := by
  have hX0 := hX
  obtain ⟨hx, hb, hml, hown, hr, hlk, hex, hRf, hRl, hRc, hRs, hJ, hK, hst, h00⟩ := hX0
  unfold f_Lw_twin at h
  refine lv_aload_n hx hb d_Lw_twin_0 rfl (lv_at hl 2 rfl) ?_
  refine lv_iconst (v := 0) hx hb d_Lw_twin_1 (by decide) ?_
  refine lv_aload_n hx hb d_Lw_twin_2 rfl (lv_at hl 0 rfl) ?_
  refine lv_iload_n hx hb d_Lw_twin_3 rfl (lv_at hl 1 rfl) ?_
  rcases mm_tc_some h with ⟨z1, g2, hf3, h⟩ | ⟨xe, z1, g2, hf3, h⟩
  · refine mm_goR (v := (some (.int z1))) (mm_goV (As := [.int x1]) (rest := [.int 0, .ref (L.2.1 50 r2)]) hX (c_LA_twin hv_r0 hf3) yw_LA_twin wt_523 wt_524 wt_525 hP hF (mm_recv (h := 0) (i := r0) hX hP hv_r0 rfl rfl) rfl hl.1 (Nat.le_of_ble_eq_true rfl) (by decide) (by decide) hRc hRs d_Lw_twin_4) hF (fun H locs hP hF _ => ?_)
    refine lv_if_eq (tgt := 14) hx hb d_Lw_twin_7 rfl (fun hc => ?_) (fun hc => ?_)
    · have h := mm_pos hc h
      refine lv_lconst (v := Int32.toInt64 0) hx hb d_Lw_twin_14 (by decide) ?_
      obtain rfl : r2 = 0 := hv_r2
      refine mm_last (x := 0) hX hP hF d_Lw_twin_15 (fun H locs hP hF => ?_)
      obtain ⟨g4, e5, h⟩ := mm_let_ex h
      have hP : mm_P L g4 H := by rw [e5]; exact hP
      refine lv_goto (tgt := 22) hx hb d_Lw_twin_16 rfl ?_
      refine lv_iconst (v := 0) hx hb d_Lw_twin_22 (by decide) ?_
      cases h
      exact mm_ret1 hx hb hr hlk hP hF (by decide) (by decide) d_Lw_twin_23
    · have h := mm_neg hc h
      refine lv_lconst (v := Int32.toInt64 1) hx hb d_Lw_twin_10 (by decide) ?_
      refine lv_goto (tgt := 15) hx hb d_Lw_twin_11 rfl ?_
      obtain rfl : r2 = 0 := hv_r2
      refine mm_last (x := 1) hX hP hF d_Lw_twin_15 (fun H locs hP hF => ?_)
      obtain ⟨g6, e7, h⟩ := mm_let_ex h
      have hP : mm_P L g6 H := by rw [e7]; exact hP
      refine lv_goto (tgt := 22) hx hb d_Lw_twin_16 rfl ?_
      refine lv_iconst (v := 0) hx hb d_Lw_twin_22 (by decide) ?_
      cases h
      exact mm_ret1 hx hb hr hlk hP hF (by decide) (by decide) d_Lw_twin_23
  · have h := h
    by_cases hc1 : xe + 1 = 1
    · have h := mm_pos hc1 h
      obtain rfl : xe = 0 := by omega
      refine mm_goC (x := 1) (pre := []) (suf := []) hX (mm_goV (As := [.int x1]) (rest := [.int 0, .ref (L.2.1 50 r2)]) hX (c_LA_twin hv_r0 hf3) yw_LA_twin wt_523 wt_524 wt_525 hP hF (mm_recv (h := 0) (i := r0) hX hP hv_r0 rfl rfl) rfl hl.1 (Nat.le_of_ble_eq_true rfl) (by decide) (by decide) hRc hRs d_Lw_twin_4) hF rfl (fun _ h => absurd h List.not_mem_nil) (by decide) (by decide) (by decide) wt_197 wt_209 (fun q H locs hP hF => ?_)
      refine lv_astore_n hx hb d_Lw_twin_19 rfl hl (Nat.lt_of_lt_of_le (Nat.lt_succ_self _) (Nat.le_of_ble_eq_true rfl)) rfl (fun ls hl => ?_)
      have hl : lv_has ls 4 [(3, .ref q), (0, .ref (L.2.1 0 r0)), (1, .int x1), (2, .ref (L.2.1 50 r2))] := hl
      refine lv_iconst (v := 1) hx hb d_Lw_twin_20 (by decide) ?_
      cases h
      exact mm_ret1 hx hb hr hlk hP hF (by decide) (by decide) d_Lw_twin_21
    have h := mm_neg hc1 h
    cases h
set_option maxRecDepth 100000 in
set_option maxHeartbeats 4000000 in
theorem c_Lw_twin {l : Launch} {L : mm_L} {g g' : mm_M} {v : Int32} {r0 : Nat} {x1 : Int32} {r2 : Nat} (hv_r0 : mm_lv L.1 0 r0) (hv_r2 : mm_lv L.1 50 r2) (h : f_Lw_twin L.1 g r0 x1 r2 = some (v, g')) : mm_C1 l y_Lw_twin method_12_code 4 (some .int) [(0, 16, 19, 13)] 8 124 L [.ref (L.2.1 0 r0), .int x1, .ref (L.2.1 50 r2)] g v g' := by
  intro p e R s m below meth c hX hP
  refine mm_enter (Nat.le_of_ble_eq_true rfl) fun ls hl => ?_
  exact w_Lw_twin hX h hP (fun q hq => by cases hq) (lv_sub (l' := [(0, .ref (L.2.1 0 r0)), (1, .int x1), (2, .ref (L.2.1 50 r2))]) hl [0, 1, 2] rfl) hv_r0 hv_r2
def f_Lw_crash (n : Nat) (g : mm_M) (r0 : Nat) (x1 : Int32) : Option (Int32 × mm_M) :=
  mm_tc (f_LA_crash n g r0 x1) (fun z1 g2 => some (0, g2)) (fun xe g2 => (if xe = 1 then some (1, g2) else (if xe = 3 then some (2, g2) else none)))
set_option maxRecDepth 100000 in
set_option maxHeartbeats 4000000 in
theorem w_Lw_crash {p : Program} {l : Launch} {e : Env} {R : Room} {s : State} {m : MethodId} {args : Array Value} {below : List Frame} {meth : Method} {c : Code} {L : mm_L} {v : Int32} {g' : mm_M} {g : mm_M} {r0 : Nat} {x1 : Int32} {H : Heap} {locs : List Loc} {ls : Array Slot} (hX : mm_Xh [(0, 5, 8, 13), (0, 5, 11, 15)] L method_13_code 3 "LoanArrowsLaw" (some .int) 8 124 p l R s m meth c) (h : f_Lw_crash L.1 g r0 x1 = some (v, g')) (hP : mm_P L g H) (hF : ∀ q ∈ locs, mm_F L q.base) (hl : lv_has ls 3 [(0, .ref (L.2.1 0 r0)), (1, .int x1)]) (hv_r0 : mm_lv L.1 0 r0) : W p l e R s m args below meth c H locs 0 0 (mm_Q1 below L s v g') (F0 m 0 ls []) := by
  have hX0 := hX
  obtain ⟨hx, hb, hml, hown, hr, hlk, hex, hRf, hRl, hRc, hRs, hJ, hK, hst, h00⟩ := hX0
  unfold f_Lw_crash at h
  refine lv_aload_n hx hb d_Lw_crash_0 rfl (lv_at hl 0 rfl) ?_
  refine lv_iload_n hx hb d_Lw_crash_1 rfl (lv_at hl 1 rfl) ?_
  rcases mm_tc_some h with ⟨z1, g2, hf3, h⟩ | ⟨xe, z1, g2, hf3, h⟩
  · refine mm_goR (v := none) (mm_goV (As := [.int x1]) (rest := []) hX (c_LA_crash hv_r0 hf3) yw_LA_crash wt_534 wt_535 wt_536 hP hF (mm_recv (h := 0) (i := r0) hX hP hv_r0 rfl rfl) rfl hl.1 (Nat.le_of_ble_eq_true rfl) (by decide) (by decide) hRc hRs d_Lw_crash_2) hF (fun H locs hP hF _ => ?_)
    refine lv_goto (tgt := 14) hx hb d_Lw_crash_5 rfl ?_
    refine lv_iconst (v := 0) hx hb d_Lw_crash_14 (by decide) ?_
    cases h
    exact mm_ret1 hx hb hr hlk hP hF (by decide) (by decide) d_Lw_crash_15
  · have h := h
    by_cases hc1 : xe + 1 = 1
    · have h := mm_pos hc1 h
      obtain rfl : xe = 0 := by omega
      refine mm_goC (x := 1) (pre := []) (suf := [(0, 5, 11, 15)]) hX (mm_goV (As := [.int x1]) (rest := []) hX (c_LA_crash hv_r0 hf3) yw_LA_crash wt_534 wt_535 wt_536 hP hF (mm_recv (h := 0) (i := r0) hX hP hv_r0 rfl rfl) rfl hl.1 (Nat.le_of_ble_eq_true rfl) (by decide) (by decide) hRc hRs d_Lw_crash_2) hF rfl (fun _ h => absurd h List.not_mem_nil) (by decide) (by decide) (by decide) wt_197 wt_209 (fun q H locs hP hF => ?_)
      refine lv_astore_n hx hb d_Lw_crash_8 rfl hl (Nat.lt_of_lt_of_le (Nat.lt_succ_self _) (Nat.le_of_ble_eq_true rfl)) rfl (fun ls hl => ?_)
      have hl : lv_has ls 3 [(2, .ref q), (0, .ref (L.2.1 0 r0)), (1, .int x1)] := hl
      refine lv_iconst (v := 1) hx hb d_Lw_crash_9 (by decide) ?_
      cases h
      exact mm_ret1 hx hb hr hlk hP hF (by decide) (by decide) d_Lw_crash_10
    have h := mm_neg hc1 h
    by_cases hc3 : xe + 1 = 3
    · have h := mm_pos hc3 h
      obtain rfl : xe = 2 := by omega
      refine mm_goC (x := 3) (pre := [(0, 5, 8, 13)]) (suf := []) hX (mm_goV (As := [.int x1]) (rest := []) hX (c_LA_crash hv_r0 hf3) yw_LA_crash wt_534 wt_535 wt_536 hP hF (mm_recv (h := 0) (i := r0) hX hP hv_r0 rfl rfl) rfl hl.1 (Nat.le_of_ble_eq_true rfl) (by decide) (by decide) hRc hRs d_Lw_crash_2) hF rfl (List.forall_mem_cons.mpr ⟨⟨by decide, "java/lang/IndexOutOfBoundsException", wt_197, by decide +kernel⟩, fun _ h => absurd h List.not_mem_nil⟩) (by decide) (by decide) (by decide) wt_198 wt_286 (fun q H locs hP hF => ?_)
      refine lv_astore_n hx hb d_Lw_crash_11 rfl hl (Nat.lt_of_lt_of_le (Nat.lt_succ_self _) (Nat.le_of_ble_eq_true rfl)) rfl (fun ls hl => ?_)
      have hl : lv_has ls 3 [(2, .ref q), (0, .ref (L.2.1 0 r0)), (1, .int x1)] := hl
      refine lv_iconst (v := 2) hx hb d_Lw_crash_12 (by decide) ?_
      cases h
      exact mm_ret1 hx hb hr hlk hP hF (by decide) (by decide) d_Lw_crash_13
    have h := mm_neg hc3 h
    cases h
set_option maxRecDepth 100000 in
set_option maxHeartbeats 4000000 in
theorem c_Lw_crash {l : Launch} {L : mm_L} {g g' : mm_M} {v : Int32} {r0 : Nat} {x1 : Int32} (hv_r0 : mm_lv L.1 0 r0) (h : f_Lw_crash L.1 g r0 x1 = some (v, g')) : mm_C1 l y_Lw_crash method_13_code 3 (some .int) [(0, 5, 8, 13), (0, 5, 11, 15)] 8 124 L [.ref (L.2.1 0 r0), .int x1] g v g' := by
  intro p e R s m below meth c hX hP
  refine mm_enter (Nat.le_of_ble_eq_true rfl) fun ls hl => ?_
  exact w_Lw_crash hX h hP (fun q hq => by cases hq) (lv_sub (l' := [(0, .ref (L.2.1 0 r0)), (1, .int x1)]) hl [0, 1] rfl) hv_r0
def f_Lw_restart (n : Nat) (g : mm_M) (r0 : Nat) (x1 : Int32) (r2 : Nat) : Option (Int32 × mm_M) :=
  mm_tc (f_LA_restart n g r0 x1) (fun z1 g2 => mm_let (mm_st g2 50 0 0 z1) (fun g4 => some (0, g4))) (fun xe g2 => (if xe = 1 then some (1, g2) else (if xe = 3 then some (2, g2) else none)))
set_option maxRecDepth 100000 in
set_option maxHeartbeats 4000000 in
theorem w_Lw_restart {p : Program} {l : Launch} {e : Env} {R : Room} {s : State} {m : MethodId} {args : Array Value} {below : List Frame} {meth : Method} {c : Code} {L : mm_L} {v : Int32} {g' : mm_M} {g : mm_M} {r0 : Nat} {x1 : Int32} {r2 : Nat} {H : Heap} {locs : List Loc} {ls : Array Slot} (hX : mm_Xh [(0, 9, 12, 13), (0, 9, 15, 15)] L method_14_code 4 "LoanArrowsLaw" (some .int) 8 124 p l R s m meth c) (h : f_Lw_restart L.1 g r0 x1 r2 = some (v, g')) (hP : mm_P L g H) (hF : ∀ q ∈ locs, mm_F L q.base) (hl : lv_has ls 4 [(0, .ref (L.2.1 0 r0)), (1, .int x1), (2, .ref (L.2.1 50 r2))]) (hv_r0 : mm_lv L.1 0 r0) (hv_r2 : mm_lv L.1 50 r2) : W p l e R s m args below meth c H locs 0 0 (mm_Q1 below L s v g') (F0 m 0 ls []) := by
  have hX0 := hX
  obtain ⟨hx, hb, hml, hown, hr, hlk, hex, hRf, hRl, hRc, hRs, hJ, hK, hst, h00⟩ := hX0
  unfold f_Lw_restart at h
  refine lv_aload_n hx hb d_Lw_restart_0 rfl (lv_at hl 2 rfl) ?_
  refine lv_iconst (v := 0) hx hb d_Lw_restart_1 (by decide) ?_
  refine lv_aload_n hx hb d_Lw_restart_2 rfl (lv_at hl 0 rfl) ?_
  refine lv_iload_n hx hb d_Lw_restart_3 rfl (lv_at hl 1 rfl) ?_
  rcases mm_tc_some h with ⟨z1, g2, hf3, h⟩ | ⟨xe, z1, g2, hf3, h⟩
  · refine mm_goR (v := (some (.int z1))) (mm_goV (As := [.int x1]) (rest := [.int 0, .ref (L.2.1 50 r2)]) hX (c_LA_restart hv_r0 hf3) yw_LA_restart wt_541 wt_542 wt_543 hP hF (mm_recv (h := 0) (i := r0) hX hP hv_r0 rfl rfl) rfl hl.1 (Nat.le_of_ble_eq_true rfl) (by decide) (by decide) hRc hRs d_Lw_restart_4) hF (fun H locs hP hF _ => ?_)
    refine lv_i2l hx hb d_Lw_restart_7 rfl ?_
    obtain rfl : r2 = 0 := hv_r2
    refine mm_last (x := z1) hX hP hF d_Lw_restart_8 (fun H locs hP hF => ?_)
    obtain ⟨g4, e5, h⟩ := mm_let_ex h
    have hP : mm_P L g4 H := by rw [e5]; exact hP
    refine lv_goto (tgt := 18) hx hb d_Lw_restart_9 rfl ?_
    refine lv_iconst (v := 0) hx hb d_Lw_restart_18 (by decide) ?_
    cases h
    exact mm_ret1 hx hb hr hlk hP hF (by decide) (by decide) d_Lw_restart_19
  · have h := h
    by_cases hc1 : xe + 1 = 1
    · have h := mm_pos hc1 h
      obtain rfl : xe = 0 := by omega
      refine mm_goC (x := 1) (pre := []) (suf := [(0, 9, 15, 15)]) hX (mm_goV (As := [.int x1]) (rest := [.int 0, .ref (L.2.1 50 r2)]) hX (c_LA_restart hv_r0 hf3) yw_LA_restart wt_541 wt_542 wt_543 hP hF (mm_recv (h := 0) (i := r0) hX hP hv_r0 rfl rfl) rfl hl.1 (Nat.le_of_ble_eq_true rfl) (by decide) (by decide) hRc hRs d_Lw_restart_4) hF rfl (fun _ h => absurd h List.not_mem_nil) (by decide) (by decide) (by decide) wt_197 wt_209 (fun q H locs hP hF => ?_)
      refine lv_astore_n hx hb d_Lw_restart_12 rfl hl (Nat.lt_of_lt_of_le (Nat.lt_succ_self _) (Nat.le_of_ble_eq_true rfl)) rfl (fun ls hl => ?_)
      have hl : lv_has ls 4 [(3, .ref q), (0, .ref (L.2.1 0 r0)), (1, .int x1), (2, .ref (L.2.1 50 r2))] := hl
      refine lv_iconst (v := 1) hx hb d_Lw_restart_13 (by decide) ?_
      cases h
      exact mm_ret1 hx hb hr hlk hP hF (by decide) (by decide) d_Lw_restart_14
    have h := mm_neg hc1 h
    by_cases hc3 : xe + 1 = 3
    · have h := mm_pos hc3 h
      obtain rfl : xe = 2 := by omega
      refine mm_goC (x := 3) (pre := [(0, 9, 12, 13)]) (suf := []) hX (mm_goV (As := [.int x1]) (rest := [.int 0, .ref (L.2.1 50 r2)]) hX (c_LA_restart hv_r0 hf3) yw_LA_restart wt_541 wt_542 wt_543 hP hF (mm_recv (h := 0) (i := r0) hX hP hv_r0 rfl rfl) rfl hl.1 (Nat.le_of_ble_eq_true rfl) (by decide) (by decide) hRc hRs d_Lw_restart_4) hF rfl (List.forall_mem_cons.mpr ⟨⟨by decide, "java/lang/IndexOutOfBoundsException", wt_197, by decide +kernel⟩, fun _ h => absurd h List.not_mem_nil⟩) (by decide) (by decide) (by decide) wt_198 wt_286 (fun q H locs hP hF => ?_)
      refine lv_astore_n hx hb d_Lw_restart_15 rfl hl (Nat.lt_of_lt_of_le (Nat.lt_succ_self _) (Nat.le_of_ble_eq_true rfl)) rfl (fun ls hl => ?_)
      have hl : lv_has ls 4 [(3, .ref q), (0, .ref (L.2.1 0 r0)), (1, .int x1), (2, .ref (L.2.1 50 r2))] := hl
      refine lv_iconst (v := 2) hx hb d_Lw_restart_16 (by decide) ?_
      cases h
      exact mm_ret1 hx hb hr hlk hP hF (by decide) (by decide) d_Lw_restart_17
    have h := mm_neg hc3 h
    cases h
set_option maxRecDepth 100000 in
set_option maxHeartbeats 4000000 in
theorem c_Lw_restart {l : Launch} {L : mm_L} {g g' : mm_M} {v : Int32} {r0 : Nat} {x1 : Int32} {r2 : Nat} (hv_r0 : mm_lv L.1 0 r0) (hv_r2 : mm_lv L.1 50 r2) (h : f_Lw_restart L.1 g r0 x1 r2 = some (v, g')) : mm_C1 l y_Lw_restart method_14_code 4 (some .int) [(0, 9, 12, 13), (0, 9, 15, 15)] 8 124 L [.ref (L.2.1 0 r0), .int x1, .ref (L.2.1 50 r2)] g v g' := by
  intro p e R s m below meth c hX hP
  refine mm_enter (Nat.le_of_ble_eq_true rfl) fun ls hl => ?_
  exact w_Lw_restart hX h hP (fun q hq => by cases hq) (lv_sub (l' := [(0, .ref (L.2.1 0 r0)), (1, .int x1), (2, .ref (L.2.1 50 r2))]) hl [0, 1, 2] rfl) hv_r0 hv_r2
def f_Lw_of1 (n : Nat) (g : mm_M) (r0 : Nat) (x1 : Int32) (x2 : Int32) (x3 : Int32) (r4 : Nat) : Option (Int32 × mm_M) :=
  mm_tc (f_LA_of1 n g r0 x1 x2 x3) (fun z1 g2 => mm_let (mm_st g2 50 0 0 z1) (fun g4 => some (0, g4))) (fun xe g2 => (if xe = 1 then some (1, g2) else none))
set_option maxRecDepth 100000 in
set_option maxHeartbeats 4000000 in
theorem w_Lw_of1 {p : Program} {l : Launch} {e : Env} {R : Room} {s : State} {m : MethodId} {args : Array Value} {below : List Frame} {meth : Method} {c : Code} {L : mm_L} {v : Int32} {g' : mm_M} {g : mm_M} {r0 : Nat} {x1 : Int32} {x2 : Int32} {x3 : Int32} {r4 : Nat} {H : Heap} {locs : List Loc} {ls : Array Slot} (hX : mm_Xh [(0, 12, 15, 13)] L method_15_code 6 "LoanArrowsLaw" (some .int) 8 127 p l R s m meth c) (h : f_Lw_of1 L.1 g r0 x1 x2 x3 r4 = some (v, g')) (hP : mm_P L g H) (hF : ∀ q ∈ locs, mm_F L q.base) (hl : lv_has ls 6 [(0, .ref (L.2.1 0 r0)), (1, .int x1), (2, .int x2), (3, .int x3), (4, .ref (L.2.1 50 r4))]) (hv_r0 : mm_lv L.1 0 r0) (hv_r4 : mm_lv L.1 50 r4) : W p l e R s m args below meth c H locs 0 0 (mm_Q1 below L s v g') (F0 m 0 ls []) := by
  have hX0 := hX
  obtain ⟨hx, hb, hml, hown, hr, hlk, hex, hRf, hRl, hRc, hRs, hJ, hK, hst, h00⟩ := hX0
  unfold f_Lw_of1 at h
  refine lv_aload hx hb d_Lw_of1_0 (lv_at hl 4 rfl) ?_
  refine lv_iconst (v := 0) hx hb d_Lw_of1_2 (by decide) ?_
  refine lv_aload_n hx hb d_Lw_of1_3 rfl (lv_at hl 0 rfl) ?_
  refine lv_iload_n hx hb d_Lw_of1_4 rfl (lv_at hl 1 rfl) ?_
  refine lv_iload_n hx hb d_Lw_of1_5 rfl (lv_at hl 2 rfl) ?_
  refine lv_iload_n hx hb d_Lw_of1_6 rfl (lv_at hl 3 rfl) ?_
  rcases mm_tc_some h with ⟨z1, g2, hf3, h⟩ | ⟨xe, z1, g2, hf3, h⟩
  · refine mm_goR (v := (some (.int z1))) (mm_goV (As := [.int x1, .int x2, .int x3]) (rest := [.int 0, .ref (L.2.1 50 r4)]) hX (c_LA_of1 hv_r0 hf3) yw_LA_of1 wt_549 wt_550 wt_551 hP hF (mm_recv (h := 0) (i := r0) hX hP hv_r0 rfl rfl) rfl hl.1 (Nat.le_of_ble_eq_true rfl) (by decide) (by decide) hRc hRs d_Lw_of1_7) hF (fun H locs hP hF _ => ?_)
    refine lv_i2l hx hb d_Lw_of1_10 rfl ?_
    obtain rfl : r4 = 0 := hv_r4
    refine mm_last (x := z1) hX hP hF d_Lw_of1_11 (fun H locs hP hF => ?_)
    obtain ⟨g4, e5, h⟩ := mm_let_ex h
    have hP : mm_P L g4 H := by rw [e5]; exact hP
    refine lv_goto (tgt := 19) hx hb d_Lw_of1_12 rfl ?_
    refine lv_iconst (v := 0) hx hb d_Lw_of1_19 (by decide) ?_
    cases h
    exact mm_ret1 hx hb hr hlk hP hF (by decide) (by decide) d_Lw_of1_20
  · have h := h
    by_cases hc1 : xe + 1 = 1
    · have h := mm_pos hc1 h
      obtain rfl : xe = 0 := by omega
      refine mm_goC (x := 1) (pre := []) (suf := []) hX (mm_goV (As := [.int x1, .int x2, .int x3]) (rest := [.int 0, .ref (L.2.1 50 r4)]) hX (c_LA_of1 hv_r0 hf3) yw_LA_of1 wt_549 wt_550 wt_551 hP hF (mm_recv (h := 0) (i := r0) hX hP hv_r0 rfl rfl) rfl hl.1 (Nat.le_of_ble_eq_true rfl) (by decide) (by decide) hRc hRs d_Lw_of1_7) hF rfl (fun _ h => absurd h List.not_mem_nil) (by decide) (by decide) (by decide) wt_197 wt_209 (fun q H locs hP hF => ?_)
      refine lv_astore hx hb d_Lw_of1_15 hl (Nat.lt_of_lt_of_le (Nat.lt_succ_self _) (Nat.le_of_ble_eq_true rfl)) rfl (fun ls hl => ?_)
      have hl : lv_has ls 6 [(5, .ref q), (0, .ref (L.2.1 0 r0)), (1, .int x1), (2, .int x2), (3, .int x3), (4, .ref (L.2.1 50 r4))] := hl
      refine lv_iconst (v := 1) hx hb d_Lw_of1_17 (by decide) ?_
      cases h
      exact mm_ret1 hx hb hr hlk hP hF (by decide) (by decide) d_Lw_of1_18
    have h := mm_neg hc1 h
    cases h
set_option maxRecDepth 100000 in
set_option maxHeartbeats 4000000 in
theorem c_Lw_of1 {l : Launch} {L : mm_L} {g g' : mm_M} {v : Int32} {r0 : Nat} {x1 : Int32} {x2 : Int32} {x3 : Int32} {r4 : Nat} (hv_r0 : mm_lv L.1 0 r0) (hv_r4 : mm_lv L.1 50 r4) (h : f_Lw_of1 L.1 g r0 x1 x2 x3 r4 = some (v, g')) : mm_C1 l y_Lw_of1 method_15_code 6 (some .int) [(0, 12, 15, 13)] 8 127 L [.ref (L.2.1 0 r0), .int x1, .int x2, .int x3, .ref (L.2.1 50 r4)] g v g' := by
  intro p e R s m below meth c hX hP
  refine mm_enter (Nat.le_of_ble_eq_true rfl) fun ls hl => ?_
  exact w_Lw_of1 hX h hP (fun q hq => by cases hq) (lv_sub (l' := [(0, .ref (L.2.1 0 r0)), (1, .int x1), (2, .int x2), (3, .int x3), (4, .ref (L.2.1 50 r4))]) hl [0, 1, 2, 3, 4] rfl) hv_r0 hv_r4
def f_Lw_reader (n : Nat) (g : mm_M) (r0 : Nat) (x1 : Int32) (x2 : Int32) (x3 : Int32) (r4 : Nat) : Option (Int32 × mm_M) :=
  mm_tc (f_LA_reader n g r0 x1 x2 x3) (fun z1 g2 => mm_let (mm_st g2 50 0 0 z1) (fun g4 => some (0, g4))) (fun xe g2 => (if xe = 1 then some (1, g2) else none))
set_option maxRecDepth 100000 in
set_option maxHeartbeats 4000000 in
theorem w_Lw_reader {p : Program} {l : Launch} {e : Env} {R : Room} {s : State} {m : MethodId} {args : Array Value} {below : List Frame} {meth : Method} {c : Code} {L : mm_L} {v : Int32} {g' : mm_M} {g : mm_M} {r0 : Nat} {x1 : Int32} {x2 : Int32} {x3 : Int32} {r4 : Nat} {H : Heap} {locs : List Loc} {ls : Array Slot} (hX : mm_Xh [(0, 12, 15, 13)] L method_16_code 6 "LoanArrowsLaw" (some .int) 8 126 p l R s m meth c) (h : f_Lw_reader L.1 g r0 x1 x2 x3 r4 = some (v, g')) (hP : mm_P L g H) (hF : ∀ q ∈ locs, mm_F L q.base) (hl : lv_has ls 6 [(0, .ref (L.2.1 0 r0)), (1, .int x1), (2, .int x2), (3, .int x3), (4, .ref (L.2.1 50 r4))]) (hv_r0 : mm_lv L.1 0 r0) (hv_r4 : mm_lv L.1 50 r4) : W p l e R s m args below meth c H locs 0 0 (mm_Q1 below L s v g') (F0 m 0 ls []) := by
  have hX0 := hX
  obtain ⟨hx, hb, hml, hown, hr, hlk, hex, hRf, hRl, hRc, hRs, hJ, hK, hst, h00⟩ := hX0
  unfold f_Lw_reader at h
  refine lv_aload hx hb d_Lw_reader_0 (lv_at hl 4 rfl) ?_
  refine lv_iconst (v := 0) hx hb d_Lw_reader_2 (by decide) ?_
  refine lv_aload_n hx hb d_Lw_reader_3 rfl (lv_at hl 0 rfl) ?_
  refine lv_iload_n hx hb d_Lw_reader_4 rfl (lv_at hl 1 rfl) ?_
  refine lv_iload_n hx hb d_Lw_reader_5 rfl (lv_at hl 2 rfl) ?_
  refine lv_iload_n hx hb d_Lw_reader_6 rfl (lv_at hl 3 rfl) ?_
  rcases mm_tc_some h with ⟨z1, g2, hf3, h⟩ | ⟨xe, z1, g2, hf3, h⟩
  · refine mm_goR (v := (some (.int z1))) (mm_goV (As := [.int x1, .int x2, .int x3]) (rest := [.int 0, .ref (L.2.1 50 r4)]) hX (c_LA_reader hv_r0 hf3) yw_LA_reader wt_557 wt_558 wt_559 hP hF (mm_recv (h := 0) (i := r0) hX hP hv_r0 rfl rfl) rfl hl.1 (Nat.le_of_ble_eq_true rfl) (by decide) (by decide) hRc hRs d_Lw_reader_7) hF (fun H locs hP hF _ => ?_)
    refine lv_i2l hx hb d_Lw_reader_10 rfl ?_
    obtain rfl : r4 = 0 := hv_r4
    refine mm_last (x := z1) hX hP hF d_Lw_reader_11 (fun H locs hP hF => ?_)
    obtain ⟨g4, e5, h⟩ := mm_let_ex h
    have hP : mm_P L g4 H := by rw [e5]; exact hP
    refine lv_goto (tgt := 19) hx hb d_Lw_reader_12 rfl ?_
    refine lv_iconst (v := 0) hx hb d_Lw_reader_19 (by decide) ?_
    cases h
    exact mm_ret1 hx hb hr hlk hP hF (by decide) (by decide) d_Lw_reader_20
  · have h := h
    by_cases hc1 : xe + 1 = 1
    · have h := mm_pos hc1 h
      obtain rfl : xe = 0 := by omega
      refine mm_goC (x := 1) (pre := []) (suf := []) hX (mm_goV (As := [.int x1, .int x2, .int x3]) (rest := [.int 0, .ref (L.2.1 50 r4)]) hX (c_LA_reader hv_r0 hf3) yw_LA_reader wt_557 wt_558 wt_559 hP hF (mm_recv (h := 0) (i := r0) hX hP hv_r0 rfl rfl) rfl hl.1 (Nat.le_of_ble_eq_true rfl) (by decide) (by decide) hRc hRs d_Lw_reader_7) hF rfl (fun _ h => absurd h List.not_mem_nil) (by decide) (by decide) (by decide) wt_197 wt_209 (fun q H locs hP hF => ?_)
      refine lv_astore hx hb d_Lw_reader_15 hl (Nat.lt_of_lt_of_le (Nat.lt_succ_self _) (Nat.le_of_ble_eq_true rfl)) rfl (fun ls hl => ?_)
      have hl : lv_has ls 6 [(5, .ref q), (0, .ref (L.2.1 0 r0)), (1, .int x1), (2, .int x2), (3, .int x3), (4, .ref (L.2.1 50 r4))] := hl
      refine lv_iconst (v := 1) hx hb d_Lw_reader_17 (by decide) ?_
      cases h
      exact mm_ret1 hx hb hr hlk hP hF (by decide) (by decide) d_Lw_reader_18
    have h := mm_neg hc1 h
    cases h
set_option maxRecDepth 100000 in
set_option maxHeartbeats 4000000 in
theorem c_Lw_reader {l : Launch} {L : mm_L} {g g' : mm_M} {v : Int32} {r0 : Nat} {x1 : Int32} {x2 : Int32} {x3 : Int32} {r4 : Nat} (hv_r0 : mm_lv L.1 0 r0) (hv_r4 : mm_lv L.1 50 r4) (h : f_Lw_reader L.1 g r0 x1 x2 x3 r4 = some (v, g')) : mm_C1 l y_Lw_reader method_16_code 6 (some .int) [(0, 12, 15, 13)] 8 126 L [.ref (L.2.1 0 r0), .int x1, .int x2, .int x3, .ref (L.2.1 50 r4)] g v g' := by
  intro p e R s m below meth c hX hP
  refine mm_enter (Nat.le_of_ble_eq_true rfl) fun ls hl => ?_
  exact w_Lw_reader hX h hP (fun q hq => by cases hq) (lv_sub (l' := [(0, .ref (L.2.1 0 r0)), (1, .int x1), (2, .int x2), (3, .int x3), (4, .ref (L.2.1 50 r4))]) hl [0, 1, 2, 3, 4] rfl) hv_r0 hv_r4
def f_Lw_place (n : Nat) (g : mm_M) (r0 : Nat) (x1 : Int32) (r2 : Nat) : Option (Int32 × mm_M) :=
  mm_tc (f_LA_place n g r0 x1) (fun z1 g2 => mm_let (mm_st g2 50 0 0 z1) (fun g4 => some (0, g4))) (fun xe g2 => (if xe = 1 then some (1, g2) else none))
set_option maxRecDepth 100000 in
set_option maxHeartbeats 4000000 in
theorem w_Lw_place {p : Program} {l : Launch} {e : Env} {R : Room} {s : State} {m : MethodId} {args : Array Value} {below : List Frame} {meth : Method} {c : Code} {L : mm_L} {v : Int32} {g' : mm_M} {g : mm_M} {r0 : Nat} {x1 : Int32} {r2 : Nat} {H : Heap} {locs : List Loc} {ls : Array Slot} (hX : mm_Xh [(0, 9, 12, 13)] L method_17_code 4 "LoanArrowsLaw" (some .int) 8 124 p l R s m meth c) (h : f_Lw_place L.1 g r0 x1 r2 = some (v, g')) (hP : mm_P L g H) (hF : ∀ q ∈ locs, mm_F L q.base) (hl : lv_has ls 4 [(0, .ref (L.2.1 0 r0)), (1, .int x1), (2, .ref (L.2.1 50 r2))]) (hv_r0 : mm_lv L.1 0 r0) (hv_r2 : mm_lv L.1 50 r2) : W p l e R s m args below meth c H locs 0 0 (mm_Q1 below L s v g') (F0 m 0 ls []) := by
  have hX0 := hX
  obtain ⟨hx, hb, hml, hown, hr, hlk, hex, hRf, hRl, hRc, hRs, hJ, hK, hst, h00⟩ := hX0
  unfold f_Lw_place at h
  refine lv_aload_n hx hb d_Lw_place_0 rfl (lv_at hl 2 rfl) ?_
  refine lv_iconst (v := 0) hx hb d_Lw_place_1 (by decide) ?_
  refine lv_aload_n hx hb d_Lw_place_2 rfl (lv_at hl 0 rfl) ?_
  refine lv_iload_n hx hb d_Lw_place_3 rfl (lv_at hl 1 rfl) ?_
  rcases mm_tc_some h with ⟨z1, g2, hf3, h⟩ | ⟨xe, z1, g2, hf3, h⟩
  · refine mm_goR (v := (some (.int z1))) (mm_goV (As := [.int x1]) (rest := [.int 0, .ref (L.2.1 50 r2)]) hX (c_LA_place hv_r0 hf3) yw_LA_place wt_565 wt_566 wt_567 hP hF (mm_recv (h := 0) (i := r0) hX hP hv_r0 rfl rfl) rfl hl.1 (Nat.le_of_ble_eq_true rfl) (by decide) (by decide) hRc hRs d_Lw_place_4) hF (fun H locs hP hF _ => ?_)
    refine lv_i2l hx hb d_Lw_place_7 rfl ?_
    obtain rfl : r2 = 0 := hv_r2
    refine mm_last (x := z1) hX hP hF d_Lw_place_8 (fun H locs hP hF => ?_)
    obtain ⟨g4, e5, h⟩ := mm_let_ex h
    have hP : mm_P L g4 H := by rw [e5]; exact hP
    refine lv_goto (tgt := 15) hx hb d_Lw_place_9 rfl ?_
    refine lv_iconst (v := 0) hx hb d_Lw_place_15 (by decide) ?_
    cases h
    exact mm_ret1 hx hb hr hlk hP hF (by decide) (by decide) d_Lw_place_16
  · have h := h
    by_cases hc1 : xe + 1 = 1
    · have h := mm_pos hc1 h
      obtain rfl : xe = 0 := by omega
      refine mm_goC (x := 1) (pre := []) (suf := []) hX (mm_goV (As := [.int x1]) (rest := [.int 0, .ref (L.2.1 50 r2)]) hX (c_LA_place hv_r0 hf3) yw_LA_place wt_565 wt_566 wt_567 hP hF (mm_recv (h := 0) (i := r0) hX hP hv_r0 rfl rfl) rfl hl.1 (Nat.le_of_ble_eq_true rfl) (by decide) (by decide) hRc hRs d_Lw_place_4) hF rfl (fun _ h => absurd h List.not_mem_nil) (by decide) (by decide) (by decide) wt_197 wt_209 (fun q H locs hP hF => ?_)
      refine lv_astore_n hx hb d_Lw_place_12 rfl hl (Nat.lt_of_lt_of_le (Nat.lt_succ_self _) (Nat.le_of_ble_eq_true rfl)) rfl (fun ls hl => ?_)
      have hl : lv_has ls 4 [(3, .ref q), (0, .ref (L.2.1 0 r0)), (1, .int x1), (2, .ref (L.2.1 50 r2))] := hl
      refine lv_iconst (v := 1) hx hb d_Lw_place_13 (by decide) ?_
      cases h
      exact mm_ret1 hx hb hr hlk hP hF (by decide) (by decide) d_Lw_place_14
    have h := mm_neg hc1 h
    cases h
set_option maxRecDepth 100000 in
set_option maxHeartbeats 4000000 in
theorem c_Lw_place {l : Launch} {L : mm_L} {g g' : mm_M} {v : Int32} {r0 : Nat} {x1 : Int32} {r2 : Nat} (hv_r0 : mm_lv L.1 0 r0) (hv_r2 : mm_lv L.1 50 r2) (h : f_Lw_place L.1 g r0 x1 r2 = some (v, g')) : mm_C1 l y_Lw_place method_17_code 4 (some .int) [(0, 9, 12, 13)] 8 124 L [.ref (L.2.1 0 r0), .int x1, .ref (L.2.1 50 r2)] g v g' := by
  intro p e R s m below meth c hX hP
  refine mm_enter (Nat.le_of_ble_eq_true rfl) fun ls hl => ?_
  exact w_Lw_place hX h hP (fun q hq => by cases hq) (lv_sub (l' := [(0, .ref (L.2.1 0 r0)), (1, .int x1), (2, .ref (L.2.1 50 r2))]) hl [0, 1, 2] rfl) hv_r0 hv_r2
def f_Lw_chain (n : Nat) (g : mm_M) (r0 : Nat) (x1 : Int32) (x2 : Int32) (r3 : Nat) : Option (Int32 × mm_M) :=
  mm_tc (f_LA_chain n g r0 x1 x2) (fun z1 g2 => mm_let (mm_st g2 50 0 0 z1) (fun g4 => some (0, g4))) (fun xe g2 => (if xe = 1 then some (1, g2) else none))
set_option maxRecDepth 100000 in
set_option maxHeartbeats 4000000 in
theorem w_Lw_chain {p : Program} {l : Launch} {e : Env} {R : Room} {s : State} {m : MethodId} {args : Array Value} {below : List Frame} {meth : Method} {c : Code} {L : mm_L} {v : Int32} {g' : mm_M} {g : mm_M} {r0 : Nat} {x1 : Int32} {x2 : Int32} {r3 : Nat} {H : Heap} {locs : List Loc} {ls : Array Slot} (hX : mm_Xh [(0, 10, 13, 13)] L method_18_code 5 "LoanArrowsLaw" (some .int) 8 125 p l R s m meth c) (h : f_Lw_chain L.1 g r0 x1 x2 r3 = some (v, g')) (hP : mm_P L g H) (hF : ∀ q ∈ locs, mm_F L q.base) (hl : lv_has ls 5 [(0, .ref (L.2.1 0 r0)), (1, .int x1), (2, .int x2), (3, .ref (L.2.1 50 r3))]) (hv_r0 : mm_lv L.1 0 r0) (hv_r3 : mm_lv L.1 50 r3) : W p l e R s m args below meth c H locs 0 0 (mm_Q1 below L s v g') (F0 m 0 ls []) := by
  have hX0 := hX
  obtain ⟨hx, hb, hml, hown, hr, hlk, hex, hRf, hRl, hRc, hRs, hJ, hK, hst, h00⟩ := hX0
  unfold f_Lw_chain at h
  refine lv_aload_n hx hb d_Lw_chain_0 rfl (lv_at hl 3 rfl) ?_
  refine lv_iconst (v := 0) hx hb d_Lw_chain_1 (by decide) ?_
  refine lv_aload_n hx hb d_Lw_chain_2 rfl (lv_at hl 0 rfl) ?_
  refine lv_iload_n hx hb d_Lw_chain_3 rfl (lv_at hl 1 rfl) ?_
  refine lv_iload_n hx hb d_Lw_chain_4 rfl (lv_at hl 2 rfl) ?_
  rcases mm_tc_some h with ⟨z1, g2, hf3, h⟩ | ⟨xe, z1, g2, hf3, h⟩
  · refine mm_goR (v := (some (.int z1))) (mm_goV (As := [.int x1, .int x2]) (rest := [.int 0, .ref (L.2.1 50 r3)]) hX (c_LA_chain hv_r0 hf3) yw_LA_chain wt_572 wt_573 wt_574 hP hF (mm_recv (h := 0) (i := r0) hX hP hv_r0 rfl rfl) rfl hl.1 (Nat.le_of_ble_eq_true rfl) (by decide) (by decide) hRc hRs d_Lw_chain_5) hF (fun H locs hP hF _ => ?_)
    refine lv_i2l hx hb d_Lw_chain_8 rfl ?_
    obtain rfl : r3 = 0 := hv_r3
    refine mm_last (x := z1) hX hP hF d_Lw_chain_9 (fun H locs hP hF => ?_)
    obtain ⟨g4, e5, h⟩ := mm_let_ex h
    have hP : mm_P L g4 H := by rw [e5]; exact hP
    refine lv_goto (tgt := 17) hx hb d_Lw_chain_10 rfl ?_
    refine lv_iconst (v := 0) hx hb d_Lw_chain_17 (by decide) ?_
    cases h
    exact mm_ret1 hx hb hr hlk hP hF (by decide) (by decide) d_Lw_chain_18
  · have h := h
    by_cases hc1 : xe + 1 = 1
    · have h := mm_pos hc1 h
      obtain rfl : xe = 0 := by omega
      refine mm_goC (x := 1) (pre := []) (suf := []) hX (mm_goV (As := [.int x1, .int x2]) (rest := [.int 0, .ref (L.2.1 50 r3)]) hX (c_LA_chain hv_r0 hf3) yw_LA_chain wt_572 wt_573 wt_574 hP hF (mm_recv (h := 0) (i := r0) hX hP hv_r0 rfl rfl) rfl hl.1 (Nat.le_of_ble_eq_true rfl) (by decide) (by decide) hRc hRs d_Lw_chain_5) hF rfl (fun _ h => absurd h List.not_mem_nil) (by decide) (by decide) (by decide) wt_197 wt_209 (fun q H locs hP hF => ?_)
      refine lv_astore hx hb d_Lw_chain_13 hl (Nat.lt_of_lt_of_le (Nat.lt_succ_self _) (Nat.le_of_ble_eq_true rfl)) rfl (fun ls hl => ?_)
      have hl : lv_has ls 5 [(4, .ref q), (0, .ref (L.2.1 0 r0)), (1, .int x1), (2, .int x2), (3, .ref (L.2.1 50 r3))] := hl
      refine lv_iconst (v := 1) hx hb d_Lw_chain_15 (by decide) ?_
      cases h
      exact mm_ret1 hx hb hr hlk hP hF (by decide) (by decide) d_Lw_chain_16
    have h := mm_neg hc1 h
    cases h
set_option maxRecDepth 100000 in
set_option maxHeartbeats 4000000 in
theorem c_Lw_chain {l : Launch} {L : mm_L} {g g' : mm_M} {v : Int32} {r0 : Nat} {x1 : Int32} {x2 : Int32} {r3 : Nat} (hv_r0 : mm_lv L.1 0 r0) (hv_r3 : mm_lv L.1 50 r3) (h : f_Lw_chain L.1 g r0 x1 x2 r3 = some (v, g')) : mm_C1 l y_Lw_chain method_18_code 5 (some .int) [(0, 10, 13, 13)] 8 125 L [.ref (L.2.1 0 r0), .int x1, .int x2, .ref (L.2.1 50 r3)] g v g' := by
  intro p e R s m below meth c hX hP
  refine mm_enter (Nat.le_of_ble_eq_true rfl) fun ls hl => ?_
  exact w_Lw_chain hX h hP (fun q hq => by cases hq) (lv_sub (l' := [(0, .ref (L.2.1 0 r0)), (1, .int x1), (2, .int x2), (3, .ref (L.2.1 50 r3))]) hl [0, 1, 2, 3] rfl) hv_r0 hv_r3
def f_Lw_served (n : Nat) (g : mm_M) (r0 : Nat) (x1 : Int32) (x2 : Int32) (r3 : Nat) : Option (Int32 × mm_M) :=
  mm_tc (f_LA_served n g r0 x1 x2) (fun z1 g2 => mm_let (mm_st g2 50 0 0 z1) (fun g4 => some (0, g4))) (fun xe g2 => (if xe = 1 then some (1, g2) else none))
set_option maxRecDepth 100000 in
set_option maxHeartbeats 4000000 in
theorem w_Lw_served {p : Program} {l : Launch} {e : Env} {R : Room} {s : State} {m : MethodId} {args : Array Value} {below : List Frame} {meth : Method} {c : Code} {L : mm_L} {v : Int32} {g' : mm_M} {g : mm_M} {r0 : Nat} {x1 : Int32} {x2 : Int32} {r3 : Nat} {H : Heap} {locs : List Loc} {ls : Array Slot} (hX : mm_Xh [(0, 10, 13, 13)] L method_19_code 5 "LoanArrowsLaw" (some .int) 8 125 p l R s m meth c) (h : f_Lw_served L.1 g r0 x1 x2 r3 = some (v, g')) (hP : mm_P L g H) (hF : ∀ q ∈ locs, mm_F L q.base) (hl : lv_has ls 5 [(0, .ref (L.2.1 0 r0)), (1, .int x1), (2, .int x2), (3, .ref (L.2.1 50 r3))]) (hv_r0 : mm_lv L.1 0 r0) (hv_r3 : mm_lv L.1 50 r3) : W p l e R s m args below meth c H locs 0 0 (mm_Q1 below L s v g') (F0 m 0 ls []) := by
  have hX0 := hX
  obtain ⟨hx, hb, hml, hown, hr, hlk, hex, hRf, hRl, hRc, hRs, hJ, hK, hst, h00⟩ := hX0
  unfold f_Lw_served at h
  refine lv_aload_n hx hb d_Lw_served_0 rfl (lv_at hl 3 rfl) ?_
  refine lv_iconst (v := 0) hx hb d_Lw_served_1 (by decide) ?_
  refine lv_aload_n hx hb d_Lw_served_2 rfl (lv_at hl 0 rfl) ?_
  refine lv_iload_n hx hb d_Lw_served_3 rfl (lv_at hl 1 rfl) ?_
  refine lv_iload_n hx hb d_Lw_served_4 rfl (lv_at hl 2 rfl) ?_
  rcases mm_tc_some h with ⟨z1, g2, hf3, h⟩ | ⟨xe, z1, g2, hf3, h⟩
  · refine mm_goR (v := (some (.int z1))) (mm_goV (As := [.int x1, .int x2]) (rest := [.int 0, .ref (L.2.1 50 r3)]) hX (c_LA_served hv_r0 hf3) yw_LA_served wt_583 wt_584 wt_585 hP hF (mm_recv (h := 0) (i := r0) hX hP hv_r0 rfl rfl) rfl hl.1 (Nat.le_of_ble_eq_true rfl) (by decide) (by decide) hRc hRs d_Lw_served_5) hF (fun H locs hP hF _ => ?_)
    refine lv_i2l hx hb d_Lw_served_8 rfl ?_
    obtain rfl : r3 = 0 := hv_r3
    refine mm_last (x := z1) hX hP hF d_Lw_served_9 (fun H locs hP hF => ?_)
    obtain ⟨g4, e5, h⟩ := mm_let_ex h
    have hP : mm_P L g4 H := by rw [e5]; exact hP
    refine lv_goto (tgt := 17) hx hb d_Lw_served_10 rfl ?_
    refine lv_iconst (v := 0) hx hb d_Lw_served_17 (by decide) ?_
    cases h
    exact mm_ret1 hx hb hr hlk hP hF (by decide) (by decide) d_Lw_served_18
  · have h := h
    by_cases hc1 : xe + 1 = 1
    · have h := mm_pos hc1 h
      obtain rfl : xe = 0 := by omega
      refine mm_goC (x := 1) (pre := []) (suf := []) hX (mm_goV (As := [.int x1, .int x2]) (rest := [.int 0, .ref (L.2.1 50 r3)]) hX (c_LA_served hv_r0 hf3) yw_LA_served wt_583 wt_584 wt_585 hP hF (mm_recv (h := 0) (i := r0) hX hP hv_r0 rfl rfl) rfl hl.1 (Nat.le_of_ble_eq_true rfl) (by decide) (by decide) hRc hRs d_Lw_served_5) hF rfl (fun _ h => absurd h List.not_mem_nil) (by decide) (by decide) (by decide) wt_197 wt_209 (fun q H locs hP hF => ?_)
      refine lv_astore hx hb d_Lw_served_13 hl (Nat.lt_of_lt_of_le (Nat.lt_succ_self _) (Nat.le_of_ble_eq_true rfl)) rfl (fun ls hl => ?_)
      have hl : lv_has ls 5 [(4, .ref q), (0, .ref (L.2.1 0 r0)), (1, .int x1), (2, .int x2), (3, .ref (L.2.1 50 r3))] := hl
      refine lv_iconst (v := 1) hx hb d_Lw_served_15 (by decide) ?_
      cases h
      exact mm_ret1 hx hb hr hlk hP hF (by decide) (by decide) d_Lw_served_16
    have h := mm_neg hc1 h
    cases h
set_option maxRecDepth 100000 in
set_option maxHeartbeats 4000000 in
theorem c_Lw_served {l : Launch} {L : mm_L} {g g' : mm_M} {v : Int32} {r0 : Nat} {x1 : Int32} {x2 : Int32} {r3 : Nat} (hv_r0 : mm_lv L.1 0 r0) (hv_r3 : mm_lv L.1 50 r3) (h : f_Lw_served L.1 g r0 x1 x2 r3 = some (v, g')) : mm_C1 l y_Lw_served method_19_code 5 (some .int) [(0, 10, 13, 13)] 8 125 L [.ref (L.2.1 0 r0), .int x1, .int x2, .ref (L.2.1 50 r3)] g v g' := by
  intro p e R s m below meth c hX hP
  refine mm_enter (Nat.le_of_ble_eq_true rfl) fun ls hl => ?_
  exact w_Lw_served hX h hP (fun q hq => by cases hq) (lv_sub (l' := [(0, .ref (L.2.1 0 r0)), (1, .int x1), (2, .int x2), (3, .ref (L.2.1 50 r3))]) hl [0, 1, 2, 3] rfl) hv_r0 hv_r3
def f_Lw_leads (n : Nat) (g : mm_M) (r0 : Nat) (x1 : Int32) (x2 : Int32) (r3 : Nat) : Option (Int32 × mm_M) :=
  mm_tc (f_LA_leads n g r0 x1 x2) (fun z1 g2 => (if z1 = 0 then mm_let (mm_st g2 50 0 0 0) (fun g4 => some (0, g4)) else mm_let (mm_st g2 50 0 0 1) (fun g6 => some (0, g6)))) (fun xe g2 => (if xe = 1 then some (1, g2) else (if xe = 3 then some (2, g2) else none)))
set_option maxRecDepth 100000 in
set_option maxHeartbeats 4000000 in
theorem w_Lw_leads {p : Program} {l : Launch} {e : Env} {R : Room} {s : State} {m : MethodId} {args : Array Value} {below : List Frame} {meth : Method} {c : Code} {L : mm_L} {v : Int32} {g' : mm_M} {g : mm_M} {r0 : Nat} {x1 : Int32} {x2 : Int32} {r3 : Nat} {H : Heap} {locs : List Loc} {ls : Array Slot} (hX : mm_Xh [(0, 17, 20, 13), (0, 17, 24, 15)] L method_20_code 5 "LoanArrowsLaw" (some .int) 8 125 p l R s m meth c) (h : f_Lw_leads L.1 g r0 x1 x2 r3 = some (v, g')) (hP : mm_P L g H) (hF : ∀ q ∈ locs, mm_F L q.base) (hl : lv_has ls 5 [(0, .ref (L.2.1 0 r0)), (1, .int x1), (2, .int x2), (3, .ref (L.2.1 50 r3))]) (hv_r0 : mm_lv L.1 0 r0) (hv_r3 : mm_lv L.1 50 r3) : W p l e R s m args below meth c H locs 0 0 (mm_Q1 below L s v g') (F0 m 0 ls []) := by
  have hX0 := hX
  obtain ⟨hx, hb, hml, hown, hr, hlk, hex, hRf, hRl, hRc, hRs, hJ, hK, hst, h00⟩ := hX0
  unfold f_Lw_leads at h
  refine lv_aload_n hx hb d_Lw_leads_0 rfl (lv_at hl 3 rfl) ?_
  refine lv_iconst (v := 0) hx hb d_Lw_leads_1 (by decide) ?_
  refine lv_aload_n hx hb d_Lw_leads_2 rfl (lv_at hl 0 rfl) ?_
  refine lv_iload_n hx hb d_Lw_leads_3 rfl (lv_at hl 1 rfl) ?_
  refine lv_iload_n hx hb d_Lw_leads_4 rfl (lv_at hl 2 rfl) ?_
  rcases mm_tc_some h with ⟨z1, g2, hf3, h⟩ | ⟨xe, z1, g2, hf3, h⟩
  · refine mm_goR (v := (some (.int z1))) (mm_goV (As := [.int x1, .int x2]) (rest := [.int 0, .ref (L.2.1 50 r3)]) hX (c_LA_leads hv_r0 hf3) yw_LA_leads wt_594 wt_595 wt_596 hP hF (mm_recv (h := 0) (i := r0) hX hP hv_r0 rfl rfl) rfl hl.1 (Nat.le_of_ble_eq_true rfl) (by decide) (by decide) hRc hRs d_Lw_leads_5) hF (fun H locs hP hF _ => ?_)
    refine lv_if_eq (tgt := 15) hx hb d_Lw_leads_8 rfl (fun hc => ?_) (fun hc => ?_)
    · have h := mm_pos hc h
      refine lv_lconst (v := Int32.toInt64 0) hx hb d_Lw_leads_15 (by decide) ?_
      obtain rfl : r3 = 0 := hv_r3
      refine mm_last (x := 0) hX hP hF d_Lw_leads_16 (fun H locs hP hF => ?_)
      obtain ⟨g4, e5, h⟩ := mm_let_ex h
      have hP : mm_P L g4 H := by rw [e5]; exact hP
      refine lv_goto (tgt := 28) hx hb d_Lw_leads_17 rfl ?_
      refine lv_iconst (v := 0) hx hb d_Lw_leads_28 (by decide) ?_
      cases h
      exact mm_ret1 hx hb hr hlk hP hF (by decide) (by decide) d_Lw_leads_29
    · have h := mm_neg hc h
      refine lv_lconst (v := Int32.toInt64 1) hx hb d_Lw_leads_11 (by decide) ?_
      refine lv_goto (tgt := 16) hx hb d_Lw_leads_12 rfl ?_
      obtain rfl : r3 = 0 := hv_r3
      refine mm_last (x := 1) hX hP hF d_Lw_leads_16 (fun H locs hP hF => ?_)
      obtain ⟨g6, e7, h⟩ := mm_let_ex h
      have hP : mm_P L g6 H := by rw [e7]; exact hP
      refine lv_goto (tgt := 28) hx hb d_Lw_leads_17 rfl ?_
      refine lv_iconst (v := 0) hx hb d_Lw_leads_28 (by decide) ?_
      cases h
      exact mm_ret1 hx hb hr hlk hP hF (by decide) (by decide) d_Lw_leads_29
  · have h := h
    by_cases hc1 : xe + 1 = 1
    · have h := mm_pos hc1 h
      obtain rfl : xe = 0 := by omega
      refine mm_goC (x := 1) (pre := []) (suf := [(0, 17, 24, 15)]) hX (mm_goV (As := [.int x1, .int x2]) (rest := [.int 0, .ref (L.2.1 50 r3)]) hX (c_LA_leads hv_r0 hf3) yw_LA_leads wt_594 wt_595 wt_596 hP hF (mm_recv (h := 0) (i := r0) hX hP hv_r0 rfl rfl) rfl hl.1 (Nat.le_of_ble_eq_true rfl) (by decide) (by decide) hRc hRs d_Lw_leads_5) hF rfl (fun _ h => absurd h List.not_mem_nil) (by decide) (by decide) (by decide) wt_197 wt_209 (fun q H locs hP hF => ?_)
      refine lv_astore hx hb d_Lw_leads_20 hl (Nat.lt_of_lt_of_le (Nat.lt_succ_self _) (Nat.le_of_ble_eq_true rfl)) rfl (fun ls hl => ?_)
      have hl : lv_has ls 5 [(4, .ref q), (0, .ref (L.2.1 0 r0)), (1, .int x1), (2, .int x2), (3, .ref (L.2.1 50 r3))] := hl
      refine lv_iconst (v := 1) hx hb d_Lw_leads_22 (by decide) ?_
      cases h
      exact mm_ret1 hx hb hr hlk hP hF (by decide) (by decide) d_Lw_leads_23
    have h := mm_neg hc1 h
    by_cases hc3 : xe + 1 = 3
    · have h := mm_pos hc3 h
      obtain rfl : xe = 2 := by omega
      refine mm_goC (x := 3) (pre := [(0, 17, 20, 13)]) (suf := []) hX (mm_goV (As := [.int x1, .int x2]) (rest := [.int 0, .ref (L.2.1 50 r3)]) hX (c_LA_leads hv_r0 hf3) yw_LA_leads wt_594 wt_595 wt_596 hP hF (mm_recv (h := 0) (i := r0) hX hP hv_r0 rfl rfl) rfl hl.1 (Nat.le_of_ble_eq_true rfl) (by decide) (by decide) hRc hRs d_Lw_leads_5) hF rfl (List.forall_mem_cons.mpr ⟨⟨by decide, "java/lang/IndexOutOfBoundsException", wt_197, by decide +kernel⟩, fun _ h => absurd h List.not_mem_nil⟩) (by decide) (by decide) (by decide) wt_198 wt_286 (fun q H locs hP hF => ?_)
      refine lv_astore hx hb d_Lw_leads_24 hl (Nat.lt_of_lt_of_le (Nat.lt_succ_self _) (Nat.le_of_ble_eq_true rfl)) rfl (fun ls hl => ?_)
      have hl : lv_has ls 5 [(4, .ref q), (0, .ref (L.2.1 0 r0)), (1, .int x1), (2, .int x2), (3, .ref (L.2.1 50 r3))] := hl
      refine lv_iconst (v := 2) hx hb d_Lw_leads_26 (by decide) ?_
      cases h
      exact mm_ret1 hx hb hr hlk hP hF (by decide) (by decide) d_Lw_leads_27
    have h := mm_neg hc3 h
    cases h
set_option maxRecDepth 100000 in
set_option maxHeartbeats 4000000 in
theorem c_Lw_leads {l : Launch} {L : mm_L} {g g' : mm_M} {v : Int32} {r0 : Nat} {x1 : Int32} {x2 : Int32} {r3 : Nat} (hv_r0 : mm_lv L.1 0 r0) (hv_r3 : mm_lv L.1 50 r3) (h : f_Lw_leads L.1 g r0 x1 x2 r3 = some (v, g')) : mm_C1 l y_Lw_leads method_20_code 5 (some .int) [(0, 17, 20, 13), (0, 17, 24, 15)] 8 125 L [.ref (L.2.1 0 r0), .int x1, .int x2, .ref (L.2.1 50 r3)] g v g' := by
  intro p e R s m below meth c hX hP
  refine mm_enter (Nat.le_of_ble_eq_true rfl) fun ls hl => ?_
  exact w_Lw_leads hX h hP (fun q hq => by cases hq) (lv_sub (l' := [(0, .ref (L.2.1 0 r0)), (1, .int x1), (2, .int x2), (3, .ref (L.2.1 50 r3))]) hl [0, 1, 2, 3] rfl) hv_r0 hv_r3

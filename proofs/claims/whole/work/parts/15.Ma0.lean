def f_Ma_lineBetween_b33 (n : Nat) (g : mm_M) (u0 : Nat) : Option (Nat × Nat × mm_M) :=
  some (0, u0, g)
set_option maxRecDepth 100000 in
set_option maxHeartbeats 4000000 in
theorem w_Ma_lineBetween_b33 {p : Program} {l : Launch} {e : Env} {R : Room} {s : State} {m : MethodId} {args : Array Value} {below : List Frame} {meth : Method} {c : Code} {L : mm_L} {eo : Nat} {v : Nat} {g' : mm_M} {g : mm_M} {u0 : Nat} {H : Heap} {locs : List Loc} {ls : Array Slot} (hX : mm_X L prog_5_method_2_code 3 "LoanArrows$Mail" (some (.object "LoanArrows$Line")) 1 22 p l R s m meth c) (h : f_Ma_lineBetween_b33 L.1 g u0 = some (eo, v, g')) (hP : mm_P L g H) (hF : ∀ q ∈ locs, mm_F L q.base) (hl : lv_has ls 3 []) (hv_u0 : mm_lv L.1 14 u0) : W p l e R s m args below meth c H locs 0 0 (mm_Q below L s (mm_or L 14 eo v) g') (F0 m 33 ls [.ref (L.2.1 14 u0)]) := by
  have hX0 := hX
  obtain ⟨hx, hb, hml, hown, hr, hlk, hex, hRf, hRl, hRc, hRs, hJ, hK, hst, h00⟩ := hX0
  unfold f_Ma_lineBetween_b33 at h
  cases h
  exact mm_aret hx hb hr hlk hP hF d_Ma_lineBetween_33
def f_Ma_lineBetween (n : Nat) (g : mm_M) (r0 : Nat) (x1 : Int32) (x2 : Int32) : Option (Nat × Nat × mm_M) :=
  mm_bd (f_Tr_isParent n g 0 x2 x1) 0 (fun z1 g2 => (if z1 = 0 then mm_ix ((2 * x2) + 1) (2 * n) (f_Ma_lineBetween_b33 n g2 ((2 * x2) + 1).toNatClampNeg) else mm_ix (2 * x1) (2 * n) (f_Ma_lineBetween_b33 n g2 (2 * x1).toNatClampNeg)))
set_option maxRecDepth 100000 in
set_option maxHeartbeats 4000000 in
theorem w_Ma_lineBetween {p : Program} {l : Launch} {e : Env} {R : Room} {s : State} {m : MethodId} {args : Array Value} {below : List Frame} {meth : Method} {c : Code} {L : mm_L} {eo : Nat} {v : Nat} {g' : mm_M} {g : mm_M} {r0 : Nat} {x1 : Int32} {x2 : Int32} {H : Heap} {locs : List Loc} {ls : Array Slot} (hX : mm_X L prog_5_method_2_code 3 "LoanArrows$Mail" (some (.object "LoanArrows$Line")) 1 22 p l R s m meth c) (h : f_Ma_lineBetween L.1 g r0 x1 x2 = some (eo, v, g')) (hP : mm_P L g H) (hF : ∀ q ∈ locs, mm_F L q.base) (hl : lv_has ls 3 [(0, .ref (L.2.1 12 r0)), (1, .int x1), (2, .int x2)]) (hv_r0 : mm_lv L.1 12 r0) : W p l e R s m args below meth c H locs 0 0 (mm_Q below L s (mm_or L 14 eo v) g') (F0 m 0 ls []) := by
  have hX0 := hX
  obtain ⟨hx, hb, hml, hown, hr, hlk, hex, hRf, hRl, hRc, hRs, hJ, hK, hst, h00⟩ := hX0
  unfold f_Ma_lineBetween at h
  refine lv_aload_n hx hb d_Ma_lineBetween_0 rfl (lv_at hl 0 rfl) ?_
  refine mm_get (h := 12) (i := r0) 1 hX hP hv_r0 rfl rfl uin_12 (by decide) ⟨rfl, rfl, rfl⟩ wt_144 rfl d_Ma_lineBetween_1 ?_
  refine lv_iload_n hx hb d_Ma_lineBetween_4 rfl (lv_at hl 2 rfl) ?_
  refine lv_iload_n hx hb d_Ma_lineBetween_5 rfl (lv_at hl 1 rfl) ?_
  rcases mm_bd_some h with ⟨z1, g2, hf3, h⟩ | ⟨xe, z1, g2, hf3, h⟩
  · refine mm_goR (v := (some (.int z1))) (mm_goV (As := [.int x2, .int x1]) (rest := []) hX (c_Tr_isParent mm_ls2 hf3) yw_Tr_isParent wt_367 wt_368 wt_369 hP hF (mm_recv (h := 2) (i := 0) hX hP mm_ls2 rfl rfl) rfl hl.1 (Nat.le_of_ble_eq_true rfl) (by decide) (by decide) hRc hRs d_Ma_lineBetween_6) hF (fun H locs hP hF _ => ?_)
    refine lv_if_eq (tgt := 23) hx hb d_Ma_lineBetween_9 rfl (fun hc => ?_) (fun hc => ?_)
    · have h := mm_pos hc h
      refine lv_aload_n hx hb d_Ma_lineBetween_23 rfl (lv_at hl 0 rfl) ?_
      refine mm_get (h := 12) (i := r0) 3 hX hP hv_r0 rfl rfl uin_12 (by decide) ⟨rfl, rfl, rfl⟩ wt_146 rfl d_Ma_lineBetween_24 ?_
      refine lv_iconst (v := 2) hx hb d_Ma_lineBetween_27 (by decide) ?_
      refine lv_iload_n hx hb d_Ma_lineBetween_28 rfl (lv_at hl 2 rfl) ?_
      refine lv_imul hx hb d_Ma_lineBetween_29 ?_
      refine lv_iconst (v := 1) hx hb d_Ma_lineBetween_30 (by decide) ?_
      refine lv_iadd hx hb d_Ma_lineBetween_31 ?_
      obtain ⟨hin4, h⟩ := mm_ix_some h
      refine mm_aald (t := 4) (h := 13) (i := 0) hX hP mm_ls13 rfl rfl rfl hin4 d_Ma_lineBetween_32 ?_
      exact w_Ma_lineBetween_b33 hX h hP hF (lv_sub (l' := []) hl [] rfl) (mm_l14 (n := L.1) hin4)
    · have h := mm_neg hc h
      refine lv_aload_n hx hb d_Ma_lineBetween_12 rfl (lv_at hl 0 rfl) ?_
      refine mm_get (h := 12) (i := r0) 3 hX hP hv_r0 rfl rfl uin_12 (by decide) ⟨rfl, rfl, rfl⟩ wt_146 rfl d_Ma_lineBetween_13 ?_
      refine lv_iconst (v := 2) hx hb d_Ma_lineBetween_16 (by decide) ?_
      refine lv_iload_n hx hb d_Ma_lineBetween_17 rfl (lv_at hl 1 rfl) ?_
      refine lv_imul hx hb d_Ma_lineBetween_18 ?_
      obtain ⟨hin5, h⟩ := mm_ix_some h
      refine mm_aald (t := 4) (h := 13) (i := 0) hX hP mm_ls13 rfl rfl rfl hin5 d_Ma_lineBetween_19 ?_
      refine lv_goto (tgt := 33) hx hb d_Ma_lineBetween_20 rfl ?_
      exact w_Ma_lineBetween_b33 hX h hP hF (lv_sub (l' := []) hl [] rfl) (mm_l14 (n := L.1) hin5)
  · cases h
    exact mm_goT (x := xe + 1) (mm_goV (As := [.int x2, .int x1]) (rest := []) hX (c_Tr_isParent mm_ls2 hf3) yw_Tr_isParent wt_367 wt_368 wt_369 hP hF (mm_recv (h := 2) (i := 0) hX hP mm_ls2 rfl rfl) rfl hl.1 (Nat.le_of_ble_eq_true rfl) (by decide) (by decide) hRc hRs d_Ma_lineBetween_6) hF hex hlk
set_option maxRecDepth 100000 in
set_option maxHeartbeats 4000000 in
theorem c_Ma_lineBetween {l : Launch} {L : mm_L} {g g' : mm_M} {eo : Nat} {v : Nat} {r0 : Nat} {x1 : Int32} {x2 : Int32} (hv_r0 : mm_lv L.1 12 r0) (h : f_Ma_lineBetween L.1 g r0 x1 x2 = some (eo, v, g')) : mm_C l y_Ma_lineBetween prog_5_method_2_code 3 (some (.object "LoanArrows$Line")) 1 22 L [.ref (L.2.1 12 r0), .int x1, .int x2] g (mm_or L 14 eo v) g' := by
  intro p e R s m below meth c hX hP
  refine mm_enter (Nat.le_of_ble_eq_true rfl) fun ls hl => ?_
  exact w_Ma_lineBetween hX h hP (fun q hq => by cases hq) (lv_sub (l' := [(0, .ref (L.2.1 12 r0)), (1, .int x1), (2, .int x2)]) hl [0, 1, 2] rfl) hv_r0
theorem rl_Ma_lineBetween {L : mm_L} {g g' : mm_M} {r0 z : Nat} {x1 x2 : Int32} (_ : mm_lv L.1 12 r0) (h : f_Ma_lineBetween L.1 g r0 x1 x2 = some (0, z, g')) : mm_lv L.1 14 z := by
  unfold f_Ma_lineBetween at h
  rcases mm_bd_some h with ⟨z1, g2, hf, h⟩ | ⟨xe, z1, g2, hf, h⟩
  · by_cases hc : z1 = 0
    · have h := mm_pos hc h
      obtain ⟨hin, h⟩ := mm_ix_some h
      unfold f_Ma_lineBetween_b33 at h
      cases h
      exact mm_l14 hin
    · have h := mm_neg hc h
      obtain ⟨hin, h⟩ := mm_ix_some h
      unfold f_Ma_lineBetween_b33 at h
      cases h
      exact mm_l14 hin
  · cases h
def f_Ma_postFirst (n : Nat) (g : mm_M) (r0 : Nat) (r1 : Nat) (x2 : Int32) (x3 : Int32) : Option (Nat × Int32 × mm_M) :=
  mm_bd (f_Li_firstCopy n g r1) 0 (fun z1 g2 => mm_bd (f_Li_firstAsker n g2 r1) 0 (fun z4 g5 => mm_bd (f_Po_put n g5 0 0 x2 x3 (g 14 r1 2) z1 z4) 0 (fun z7 g8 => some (0, 0, g8))))
set_option maxRecDepth 100000 in
set_option maxHeartbeats 4000000 in
theorem w_Ma_postFirst {p : Program} {l : Launch} {e : Env} {R : Room} {s : State} {m : MethodId} {args : Array Value} {below : List Frame} {meth : Method} {c : Code} {L : mm_L} {eo : Nat} {v : Int32} {g' : mm_M} {g : mm_M} {r0 : Nat} {r1 : Nat} {x2 : Int32} {x3 : Int32} {H : Heap} {locs : List Loc} {ls : Array Slot} (hX : mm_X L prog_5_method_8_code 4 "LoanArrows$Mail" none 1 27 p l R s m meth c) (h : f_Ma_postFirst L.1 g r0 r1 x2 x3 = some (eo, v, g')) (hP : mm_P L g H) (hF : ∀ q ∈ locs, mm_F L q.base) (hl : lv_has ls 4 [(0, .ref (L.2.1 12 r0)), (1, .ref (L.2.1 14 r1)), (2, .int x2), (3, .int x3)]) (hv_r0 : mm_lv L.1 12 r0) (hv_r1 : mm_lv L.1 14 r1) : W p l e R s m args below meth c H locs 0 0 (mm_Q below L s (mm_ov eo v) g') (F0 m 0 ls []) := by
  have hX0 := hX
  obtain ⟨hx, hb, hml, hown, hr, hlk, hex, hRf, hRl, hRc, hRs, hJ, hK, hst, h00⟩ := hX0
  unfold f_Ma_postFirst at h
  refine lv_aload_n hx hb d_Ma_postFirst_0 rfl (lv_at hl 0 rfl) ?_
  refine mm_get (h := 12) (i := r0) 2 hX hP hv_r0 rfl rfl uin_12 (by decide) ⟨rfl, rfl, rfl⟩ wt_145 rfl d_Ma_postFirst_1 ?_
  refine lv_iconst (v := 0) hx hb d_Ma_postFirst_4 (by decide) ?_
  refine lv_iload_n hx hb d_Ma_postFirst_5 rfl (lv_at hl 2 rfl) ?_
  refine lv_iload_n hx hb d_Ma_postFirst_6 rfl (lv_at hl 3 rfl) ?_
  refine lv_aload_n hx hb d_Ma_postFirst_7 rfl (lv_at hl 1 rfl) ?_
  refine mm_getN (h := 14) (i := r1) 2 hX hP hv_r1 rfl rfl uin_14 (by decide) ⟨rfl, rfl, rfl⟩ wn_129 rfl d_Ma_postFirst_8 ?_
  refine lv_aload_n hx hb d_Ma_postFirst_11 rfl (lv_at hl 1 rfl) ?_
  rcases mm_bd_some h with ⟨z1, g2, hf3, h⟩ | ⟨xe, z1, g2, hf3, h⟩
  · refine mm_goR (v := (some (.int z1))) (mm_goV (As := []) (rest := [.int (g 14 r1 2), .int x3, .int x2, .int 0, .ref (L.2.1 10 0)]) hX (c_Li_firstCopy hv_r1 hf3) yw_Li_firstCopy wt_379 wt_380 wt_381 hP hF (mm_recv (h := 14) (i := r1) hX hP hv_r1 rfl rfl) rfl hl.1 (Nat.le_of_ble_eq_true rfl) (by decide) (by decide) hRc hRs d_Ma_postFirst_12) hF (fun H locs hP hF _ => ?_)
    refine lv_aload_n hx hb d_Ma_postFirst_15 rfl (lv_at hl 1 rfl) ?_
    rcases mm_bd_some h with ⟨z4, g5, hf6, h⟩ | ⟨xe, z4, g5, hf6, h⟩
    · refine mm_goR (v := (some (.int z4))) (mm_goV (As := []) (rest := [.int z1, .int (g 14 r1 2), .int x3, .int x2, .int 0, .ref (L.2.1 10 0)]) hX (c_Li_firstAsker hv_r1 hf6) yw_Li_firstAsker wt_383 wt_384 wt_385 hP hF (mm_recv (h := 14) (i := r1) hX hP hv_r1 rfl rfl) rfl hl.1 (Nat.le_of_ble_eq_true rfl) (by decide) (by decide) hRc hRs d_Ma_postFirst_16) hF (fun H locs hP hF _ => ?_)
      rcases mm_bd_some h with ⟨z7, g8, hf9, h⟩ | ⟨xe, z7, g8, hf9, h⟩
      · refine mm_goR (v := none) (mm_goV (As := [.int 0, .int x2, .int x3, .int (g 14 r1 2), .int z1, .int z4]) (rest := []) hX (c_Po_put mm_ls10 hf9) yw_Po_put wt_387 wt_388 wt_389 hP hF (mm_recv (h := 10) (i := 0) hX hP mm_ls10 rfl rfl) rfl hl.1 (Nat.le_of_ble_eq_true rfl) (by decide) (by decide) hRc hRs d_Ma_postFirst_19) hF (fun H locs hP hF _ => ?_)
        cases h
        exact mm_vret hx hb hr hlk hP hF d_Ma_postFirst_22
      · cases h
        exact mm_goT (x := xe + 1) (mm_goV (As := [.int 0, .int x2, .int x3, .int (g 14 r1 2), .int z1, .int z4]) (rest := []) hX (c_Po_put mm_ls10 hf9) yw_Po_put wt_387 wt_388 wt_389 hP hF (mm_recv (h := 10) (i := 0) hX hP mm_ls10 rfl rfl) rfl hl.1 (Nat.le_of_ble_eq_true rfl) (by decide) (by decide) hRc hRs d_Ma_postFirst_19) hF hex hlk
    · cases h
      exact mm_goT (x := xe + 1) (mm_goV (As := []) (rest := [.int z1, .int (g 14 r1 2), .int x3, .int x2, .int 0, .ref (L.2.1 10 0)]) hX (c_Li_firstAsker hv_r1 hf6) yw_Li_firstAsker wt_383 wt_384 wt_385 hP hF (mm_recv (h := 14) (i := r1) hX hP hv_r1 rfl rfl) rfl hl.1 (Nat.le_of_ble_eq_true rfl) (by decide) (by decide) hRc hRs d_Ma_postFirst_16) hF hex hlk
  · cases h
    exact mm_goT (x := xe + 1) (mm_goV (As := []) (rest := [.int (g 14 r1 2), .int x3, .int x2, .int 0, .ref (L.2.1 10 0)]) hX (c_Li_firstCopy hv_r1 hf3) yw_Li_firstCopy wt_379 wt_380 wt_381 hP hF (mm_recv (h := 14) (i := r1) hX hP hv_r1 rfl rfl) rfl hl.1 (Nat.le_of_ble_eq_true rfl) (by decide) (by decide) hRc hRs d_Ma_postFirst_12) hF hex hlk
set_option maxRecDepth 100000 in
set_option maxHeartbeats 4000000 in
theorem c_Ma_postFirst {l : Launch} {L : mm_L} {g g' : mm_M} {eo : Nat} {v : Int32} {r0 : Nat} {r1 : Nat} {x2 : Int32} {x3 : Int32} (hv_r0 : mm_lv L.1 12 r0) (hv_r1 : mm_lv L.1 14 r1) (h : f_Ma_postFirst L.1 g r0 r1 x2 x3 = some (eo, v, g')) : mm_C l y_Ma_postFirst prog_5_method_8_code 4 none 1 27 L [.ref (L.2.1 12 r0), .ref (L.2.1 14 r1), .int x2, .int x3] g (mm_ov eo v) g' := by
  intro p e R s m below meth c hX hP
  refine mm_enter (Nat.le_of_ble_eq_true rfl) fun ls hl => ?_
  exact w_Ma_postFirst hX h hP (fun q hq => by cases hq) (lv_sub (l' := [(0, .ref (L.2.1 12 r0)), (1, .ref (L.2.1 14 r1)), (2, .int x2), (3, .int x3)]) hl [0, 1, 2, 3] rfl) hv_r0 hv_r1
def f_Ma_sendLetter_b36 (n : Nat) (g : mm_M)  : Option (Nat × Int32 × mm_M) :=
  some (0, 0, g)
set_option maxRecDepth 100000 in
set_option maxHeartbeats 4000000 in
theorem w_Ma_sendLetter_b36 {p : Program} {l : Launch} {e : Env} {R : Room} {s : State} {m : MethodId} {args : Array Value} {below : List Frame} {meth : Method} {c : Code} {L : mm_L} {eo : Nat} {v : Int32} {g' : mm_M} {g : mm_M} {H : Heap} {locs : List Loc} {ls : Array Slot} (hX : mm_X L prog_5_method_3_code 7 "LoanArrows$Mail" none 2 50 p l R s m meth c) (h : f_Ma_sendLetter_b36 L.1 g = some (eo, v, g')) (hP : mm_P L g H) (hF : ∀ q ∈ locs, mm_F L q.base) (hl : lv_has ls 7 []) : W p l e R s m args below meth c H locs 0 0 (mm_Q below L s (mm_ov eo v) g') (F0 m 36 ls []) := by
  have hX0 := hX
  obtain ⟨hx, hb, hml, hown, hr, hlk, hex, hRf, hRl, hRc, hRs, hJ, hK, hst, h00⟩ := hX0
  unfold f_Ma_sendLetter_b36 at h
  cases h
  exact mm_vret hx hb hr hlk hP hF d_Ma_sendLetter_36
def f_Ma_sendLetter (n : Nat) (g : mm_M) (r0 : Nat) (x1 : Int32) (x2 : Int32) (x3 : Int32) (x4 : Int32) : Option (Nat × Int32 × mm_M) :=
  mm_bd (f_Ma_lineBetween n g r0 x1 x2) 0 (fun z1 g2 => mm_bd (f_Li_isEmpty n g2 z1) 0 (fun z4 g5 => mm_bd (f_Li_append n g5 z1 x3 x4) 0 (fun z7 g8 => (if z4 = 0 then f_Ma_sendLetter_b36 n g8 else mm_bd (f_Ma_postFirst n g8 r0 z1 x1 x2) 0 (fun z10 g11 => f_Ma_sendLetter_b36 n g11)))))
set_option maxRecDepth 100000 in
set_option maxHeartbeats 4000000 in
theorem w_Ma_sendLetter {p : Program} {l : Launch} {e : Env} {R : Room} {s : State} {m : MethodId} {args : Array Value} {below : List Frame} {meth : Method} {c : Code} {L : mm_L} {eo : Nat} {v : Int32} {g' : mm_M} {g : mm_M} {r0 : Nat} {x1 : Int32} {x2 : Int32} {x3 : Int32} {x4 : Int32} {H : Heap} {locs : List Loc} {ls : Array Slot} (hX : mm_X L prog_5_method_3_code 7 "LoanArrows$Mail" none 2 50 p l R s m meth c) (h : f_Ma_sendLetter L.1 g r0 x1 x2 x3 x4 = some (eo, v, g')) (hP : mm_P L g H) (hF : ∀ q ∈ locs, mm_F L q.base) (hl : lv_has ls 7 [(0, .ref (L.2.1 12 r0)), (1, .int x1), (2, .int x2), (3, .int x3), (4, .int x4)]) (hv_r0 : mm_lv L.1 12 r0) : W p l e R s m args below meth c H locs 0 0 (mm_Q below L s (mm_ov eo v) g') (F0 m 0 ls []) := by
  have hX0 := hX
  obtain ⟨hx, hb, hml, hown, hr, hlk, hex, hRf, hRl, hRc, hRs, hJ, hK, hst, h00⟩ := hX0
  unfold f_Ma_sendLetter at h
  refine lv_aload_n hx hb d_Ma_sendLetter_0 rfl (lv_at hl 0 rfl) ?_
  refine lv_iload_n hx hb d_Ma_sendLetter_1 rfl (lv_at hl 1 rfl) ?_
  refine lv_iload_n hx hb d_Ma_sendLetter_2 rfl (lv_at hl 2 rfl) ?_
  rcases mm_bd_some h with ⟨z1, g2, hf3, h⟩ | ⟨xe, z1, g2, hf3, h⟩
  · refine mm_goR (v := (some (.ref (L.2.1 14 z1)))) (mm_goV (As := [.int x1, .int x2]) (rest := []) hX (c_Ma_lineBetween hv_r0 hf3) yw_Ma_lineBetween wt_363 wt_365 ws_0_6 hP hF (mm_recv (h := 12) (i := r0) hX hP hv_r0 rfl rfl) rfl hl.1 (Nat.le_of_ble_eq_true rfl) (by decide) (by decide) hRc hRs d_Ma_sendLetter_3) hF (fun H locs hP hF _ => ?_)
    refine lv_astore hx hb d_Ma_sendLetter_6 hl (Nat.lt_of_lt_of_le (Nat.lt_succ_self _) (Nat.le_of_ble_eq_true rfl)) rfl (fun ls hl => ?_)
    have hl : lv_has ls 7 [(5, .ref (L.2.1 14 z1)), (0, .ref (L.2.1 12 r0)), (1, .int x1), (2, .int x2), (3, .int x3), (4, .int x4)] := hl
    refine lv_aload hx hb d_Ma_sendLetter_8 (lv_at hl 0 rfl) ?_
    rcases mm_bd_some h with ⟨z4, g5, hf6, h⟩ | ⟨xe, z4, g5, hf6, h⟩
    · refine mm_goR (v := (some (.int z4))) (mm_goV (As := []) (rest := []) hX (c_Li_isEmpty (rl_Ma_lineBetween hv_r0 hf3) hf6) yw_Li_isEmpty wt_187 wt_188 wt_189 hP hF (mm_recv (h := 14) (i := z1) hX hP (rl_Ma_lineBetween hv_r0 hf3) rfl rfl) rfl hl.1 (Nat.le_of_ble_eq_true rfl) (by decide) (by decide) hRc hRs d_Ma_sendLetter_10) hF (fun H locs hP hF _ => ?_)
      refine lv_istore hx hb d_Ma_sendLetter_13 hl (Nat.lt_of_lt_of_le (Nat.lt_succ_self _) (Nat.le_of_ble_eq_true rfl)) rfl (fun ls hl => ?_)
      have hl : lv_has ls 7 [(6, .int z4), (5, .ref (L.2.1 14 z1)), (0, .ref (L.2.1 12 r0)), (1, .int x1), (2, .int x2), (3, .int x3), (4, .int x4)] := hl
      refine lv_aload hx hb d_Ma_sendLetter_15 (lv_at hl 1 rfl) ?_
      refine lv_iload_n hx hb d_Ma_sendLetter_17 rfl (lv_at hl 5 rfl) ?_
      refine lv_iload hx hb d_Ma_sendLetter_18 (lv_at hl 6 rfl) ?_
      rcases mm_bd_some h with ⟨z7, g8, hf9, h⟩ | ⟨xe, z7, g8, hf9, h⟩
      · refine mm_goR (v := none) (mm_goV (As := [.int x3, .int x4]) (rest := []) hX (c_Li_append (rl_Ma_lineBetween hv_r0 hf3) hf9) yw_Li_append wt_371 wt_372 wt_373 hP hF (mm_recv (h := 14) (i := z1) hX hP (rl_Ma_lineBetween hv_r0 hf3) rfl rfl) rfl hl.1 (Nat.le_of_ble_eq_true rfl) (by decide) (by decide) hRc hRs d_Ma_sendLetter_20) hF (fun H locs hP hF _ => ?_)
        refine lv_iload hx hb d_Ma_sendLetter_23 (lv_at hl 0 rfl) ?_
        refine lv_if_eq (tgt := 36) hx hb d_Ma_sendLetter_25 rfl (fun hc => ?_) (fun hc => ?_)
        · have h := mm_pos hc h
          exact w_Ma_sendLetter_b36 hX h hP hF (lv_sub (l' := []) hl [] rfl)
        · have h := mm_neg hc h
          refine lv_aload_n hx hb d_Ma_sendLetter_28 rfl (lv_at hl 2 rfl) ?_
          refine lv_aload hx hb d_Ma_sendLetter_29 (lv_at hl 1 rfl) ?_
          refine lv_iload_n hx hb d_Ma_sendLetter_31 rfl (lv_at hl 3 rfl) ?_
          refine lv_iload_n hx hb d_Ma_sendLetter_32 rfl (lv_at hl 4 rfl) ?_
          rcases mm_bd_some h with ⟨z10, g11, hf12, h⟩ | ⟨xe, z10, g11, hf12, h⟩
          · refine mm_goR (v := none) (mm_goV (As := [.ref (L.2.1 14 z1), .int x1, .int x2]) (rest := []) hX (c_Ma_postFirst hv_r0 (rl_Ma_lineBetween hv_r0 hf3) hf12) yw_Ma_postFirst wt_375 wt_377 ws_0_7 hP hF (mm_recv (h := 12) (i := r0) hX hP hv_r0 rfl rfl) rfl hl.1 (Nat.le_of_ble_eq_true rfl) (by decide) (by decide) hRc hRs d_Ma_sendLetter_33) hF (fun H locs hP hF _ => ?_)
            exact w_Ma_sendLetter_b36 hX h hP hF (lv_sub (l' := []) hl [] rfl)
          · cases h
            exact mm_goT (x := xe + 1) (mm_goV (As := [.ref (L.2.1 14 z1), .int x1, .int x2]) (rest := []) hX (c_Ma_postFirst hv_r0 (rl_Ma_lineBetween hv_r0 hf3) hf12) yw_Ma_postFirst wt_375 wt_377 ws_0_7 hP hF (mm_recv (h := 12) (i := r0) hX hP hv_r0 rfl rfl) rfl hl.1 (Nat.le_of_ble_eq_true rfl) (by decide) (by decide) hRc hRs d_Ma_sendLetter_33) hF hex hlk
      · cases h
        exact mm_goT (x := xe + 1) (mm_goV (As := [.int x3, .int x4]) (rest := []) hX (c_Li_append (rl_Ma_lineBetween hv_r0 hf3) hf9) yw_Li_append wt_371 wt_372 wt_373 hP hF (mm_recv (h := 14) (i := z1) hX hP (rl_Ma_lineBetween hv_r0 hf3) rfl rfl) rfl hl.1 (Nat.le_of_ble_eq_true rfl) (by decide) (by decide) hRc hRs d_Ma_sendLetter_20) hF hex hlk
    · cases h
      exact mm_goT (x := xe + 1) (mm_goV (As := []) (rest := []) hX (c_Li_isEmpty (rl_Ma_lineBetween hv_r0 hf3) hf6) yw_Li_isEmpty wt_187 wt_188 wt_189 hP hF (mm_recv (h := 14) (i := z1) hX hP (rl_Ma_lineBetween hv_r0 hf3) rfl rfl) rfl hl.1 (Nat.le_of_ble_eq_true rfl) (by decide) (by decide) hRc hRs d_Ma_sendLetter_10) hF hex hlk
  · cases h
    exact mm_goT (x := xe + 1) (mm_goV (As := [.int x1, .int x2]) (rest := []) hX (c_Ma_lineBetween hv_r0 hf3) yw_Ma_lineBetween wt_363 wt_365 ws_0_6 hP hF (mm_recv (h := 12) (i := r0) hX hP hv_r0 rfl rfl) rfl hl.1 (Nat.le_of_ble_eq_true rfl) (by decide) (by decide) hRc hRs d_Ma_sendLetter_3) hF hex hlk
set_option maxRecDepth 100000 in
set_option maxHeartbeats 4000000 in
theorem c_Ma_sendLetter {l : Launch} {L : mm_L} {g g' : mm_M} {eo : Nat} {v : Int32} {r0 : Nat} {x1 : Int32} {x2 : Int32} {x3 : Int32} {x4 : Int32} (hv_r0 : mm_lv L.1 12 r0) (h : f_Ma_sendLetter L.1 g r0 x1 x2 x3 x4 = some (eo, v, g')) : mm_C l y_Ma_sendLetter prog_5_method_3_code 7 none 2 50 L [.ref (L.2.1 12 r0), .int x1, .int x2, .int x3, .int x4] g (mm_ov eo v) g' := by
  intro p e R s m below meth c hX hP
  refine mm_enter (Nat.le_of_ble_eq_true rfl) fun ls hl => ?_
  exact w_Ma_sendLetter hX h hP (fun q hq => by cases hq) (lv_sub (l' := [(0, .ref (L.2.1 12 r0)), (1, .int x1), (2, .int x2), (3, .int x3), (4, .int x4)]) hl [0, 1, 2, 3, 4] rfl) hv_r0
def f_Ma_repeatFirstLetters_l4 (n : Nat) : Nat → mm_M → Nat → Int32 → Int32 → Int32 → Option (Nat × Int32 × mm_M)
  | 0, _, _, _, _, _ => none
  | k + 1, g, r0, x1, x2, x3 => (if (g 12 r0 0) ≤ x3 then some (0, x2, g) else mm_bd (f_Tr_areNeighbours n g 0 x1 x3) 0 (fun z1 g2 => (if z1 = 0 then f_Ma_repeatFirstLetters_l4 n k g2 r0 x1 x2 (x3 + 1) else mm_bd (f_Ma_lineBetween n g2 r0 x1 x3) 0 (fun z4 g5 => mm_bd (f_Li_isEmpty n g5 z4) 0 (fun z7 g8 => (if z7 = 0 then mm_bd (f_Ma_lineBetween n g8 r0 x1 x3) 0 (fun z10 g11 => mm_bd (f_Ma_postFirst n g11 r0 z10 x1 x3) 0 (fun z13 g14 => f_Ma_repeatFirstLetters_l4 n k g14 r0 x1 (x2 + 1) (x3 + 1))) else f_Ma_repeatFirstLetters_l4 n k g8 r0 x1 x2 (x3 + 1)))))))
set_option maxRecDepth 100000 in
set_option maxHeartbeats 4000000 in
theorem w_Ma_repeatFirstLetters_l4 {p : Program} {l : Launch} {e : Env} {R : Room} {s : State} {m : MethodId} {args : Array Value} {below : List Frame} {meth : Method} {c : Code} {L : mm_L} {eo : Nat} {v : Int32} {g' : mm_M} (hX : mm_X L prog_5_method_4_code 4 "LoanArrows$Mail" (some .int) 2 50 p l R s m meth c) : ∀ (k : Nat) (g : mm_M) (r0 : Nat) (x1 : Int32) (x2 : Int32) (x3 : Int32) (H : Heap) (locs : List Loc) (ls : Array Slot), f_Ma_repeatFirstLetters_l4 L.1 k g r0 x1 x2 x3 = some (eo, v, g') → mm_P L g H → (∀ q ∈ locs, mm_F L q.base) → lv_has ls 4 [(0, .ref (L.2.1 12 r0)), (1, .int x1), (2, .int x2), (3, .int x3)] → mm_lv L.1 12 r0 → W p l e R s m args below meth c H locs 0 0 (mm_Q below L s (mm_oi eo v) g') (F0 m 4 ls []) := by
  have hX0 := hX
  obtain ⟨hx, hb, hml, hown, hr, hlk, hex, hRf, hRl, hRc, hRs, hJ, hK, hst, h00⟩ := hX0
  intro k
  induction k with
  | zero =>
    intro g r0 x1 x2 x3 H locs ls h hP hF hl hv_r0
    rw [f_Ma_repeatFirstLetters_l4] at h
    cases h
  | succ k ih =>
    intro g r0 x1 x2 x3 H locs ls h hP hF hl hv_r0
    rw [f_Ma_repeatFirstLetters_l4] at h
    refine lv_iload_n hx hb d_Ma_repeatFirstLetters_4 rfl (lv_at hl 3 rfl) ?_
    refine lv_aload_n hx hb d_Ma_repeatFirstLetters_5 rfl (lv_at hl 0 rfl) ?_
    refine mm_get (h := 12) (i := r0) 0 hX hP hv_r0 rfl rfl uin_12 (by decide) ⟨rfl, rfl, rfl⟩ wt_143 rfl d_Ma_repeatFirstLetters_6 ?_
    refine lv_icmp_ge (tgt := 57) hx hb d_Ma_repeatFirstLetters_9 rfl (fun hc => ?_) (fun hc => ?_)
    · have h := mm_pos hc h
      refine lv_iload_n hx hb d_Ma_repeatFirstLetters_57 rfl (lv_at hl 2 rfl) ?_
      cases h
      exact mm_iret hx hb hr hlk hP hF d_Ma_repeatFirstLetters_58
    · have h := mm_neg hc h
      refine lv_aload_n hx hb d_Ma_repeatFirstLetters_12 rfl (lv_at hl 0 rfl) ?_
      refine mm_get (h := 12) (i := r0) 1 hX hP hv_r0 rfl rfl uin_12 (by decide) ⟨rfl, rfl, rfl⟩ wt_144 rfl d_Ma_repeatFirstLetters_13 ?_
      refine lv_iload_n hx hb d_Ma_repeatFirstLetters_16 rfl (lv_at hl 1 rfl) ?_
      refine lv_iload_n hx hb d_Ma_repeatFirstLetters_17 rfl (lv_at hl 3 rfl) ?_
      rcases mm_bd_some h with ⟨z1, g2, hf3, h⟩ | ⟨xe, z1, g2, hf3, h⟩
      · refine mm_goR (v := (some (.int z1))) (mm_goV (As := [.int x1, .int x3]) (rest := []) hX (c_Tr_areNeighbours mm_ls2 hf3) yw_Tr_areNeighbours wt_451 wt_452 wt_453 hP hF (mm_recv (h := 2) (i := 0) hX hP mm_ls2 rfl rfl) rfl hl.1 (Nat.le_of_ble_eq_true rfl) (by decide) (by decide) hRc hRs d_Ma_repeatFirstLetters_18) hF (fun H locs hP hF _ => ?_)
        refine lv_if_eq (tgt := 51) hx hb d_Ma_repeatFirstLetters_21 rfl (fun hc => ?_) (fun hc => ?_)
        · have h := mm_pos hc h
          refine lv_iinc (k := 3) (v := (x3 + 1)) hx hb d_Ma_repeatFirstLetters_51 hl rfl (congrArg (fun z => x3 + z) mm_i1) (Nat.lt_of_lt_of_le (Nat.lt_succ_self _) (Nat.le_of_ble_eq_true rfl)) rfl (fun ls hl => ?_)
          have hl : lv_has ls 4 [(3, .int (x3 + 1)), (0, .ref (L.2.1 12 r0)), (1, .int x1), (2, .int x2)] := hl
          refine lv_goto (tgt := 4) hx hb d_Ma_repeatFirstLetters_54 rfl ?_
          exact ih _ _ _ _ _ _ _ _ h hP hF (lv_sub (l' := [(0, .ref (L.2.1 12 r0)), (1, .int x1), (2, .int x2), (3, .int (x3 + 1))]) hl [1, 2, 3, 0] rfl) hv_r0
        · have h := mm_neg hc h
          refine lv_aload_n hx hb d_Ma_repeatFirstLetters_24 rfl (lv_at hl 0 rfl) ?_
          refine lv_iload_n hx hb d_Ma_repeatFirstLetters_25 rfl (lv_at hl 1 rfl) ?_
          refine lv_iload_n hx hb d_Ma_repeatFirstLetters_26 rfl (lv_at hl 3 rfl) ?_
          rcases mm_bd_some h with ⟨z4, g5, hf6, h⟩ | ⟨xe, z4, g5, hf6, h⟩
          · refine mm_goR (v := (some (.ref (L.2.1 14 z4)))) (mm_goV (As := [.int x1, .int x3]) (rest := []) hX (c_Ma_lineBetween hv_r0 hf6) yw_Ma_lineBetween wt_363 wt_365 ws_0_6 hP hF (mm_recv (h := 12) (i := r0) hX hP hv_r0 rfl rfl) rfl hl.1 (Nat.le_of_ble_eq_true rfl) (by decide) (by decide) hRc hRs d_Ma_repeatFirstLetters_27) hF (fun H locs hP hF _ => ?_)
            rcases mm_bd_some h with ⟨z7, g8, hf9, h⟩ | ⟨xe, z7, g8, hf9, h⟩
            · refine mm_goR (v := (some (.int z7))) (mm_goV (As := []) (rest := []) hX (c_Li_isEmpty (rl_Ma_lineBetween hv_r0 hf6) hf9) yw_Li_isEmpty wt_187 wt_188 wt_189 hP hF (mm_recv (h := 14) (i := z4) hX hP (rl_Ma_lineBetween hv_r0 hf6) rfl rfl) rfl hl.1 (Nat.le_of_ble_eq_true rfl) (by decide) (by decide) hRc hRs d_Ma_repeatFirstLetters_30) hF (fun H locs hP hF _ => ?_)
              refine lv_if_ne (tgt := 51) hx hb d_Ma_repeatFirstLetters_33 rfl (fun hc => ?_) (fun hc => ?_)
              · have h := mm_neg hc h
                refine lv_iinc (k := 3) (v := (x3 + 1)) hx hb d_Ma_repeatFirstLetters_51 hl rfl (congrArg (fun z => x3 + z) mm_i1) (Nat.lt_of_lt_of_le (Nat.lt_succ_self _) (Nat.le_of_ble_eq_true rfl)) rfl (fun ls hl => ?_)
                have hl : lv_has ls 4 [(3, .int (x3 + 1)), (0, .ref (L.2.1 12 r0)), (1, .int x1), (2, .int x2)] := hl
                refine lv_goto (tgt := 4) hx hb d_Ma_repeatFirstLetters_54 rfl ?_
                exact ih _ _ _ _ _ _ _ _ h hP hF (lv_sub (l' := [(0, .ref (L.2.1 12 r0)), (1, .int x1), (2, .int x2), (3, .int (x3 + 1))]) hl [1, 2, 3, 0] rfl) hv_r0
              · have h := mm_pos hc h
                refine lv_aload_n hx hb d_Ma_repeatFirstLetters_36 rfl (lv_at hl 0 rfl) ?_
                refine lv_aload_n hx hb d_Ma_repeatFirstLetters_37 rfl (lv_at hl 0 rfl) ?_
                refine lv_iload_n hx hb d_Ma_repeatFirstLetters_38 rfl (lv_at hl 1 rfl) ?_
                refine lv_iload_n hx hb d_Ma_repeatFirstLetters_39 rfl (lv_at hl 3 rfl) ?_
                rcases mm_bd_some h with ⟨z10, g11, hf12, h⟩ | ⟨xe, z10, g11, hf12, h⟩
                · refine mm_goR (v := (some (.ref (L.2.1 14 z10)))) (mm_goV (As := [.int x1, .int x3]) (rest := [.ref (L.2.1 12 r0)]) hX (c_Ma_lineBetween hv_r0 hf12) yw_Ma_lineBetween wt_363 wt_365 ws_0_6 hP hF (mm_recv (h := 12) (i := r0) hX hP hv_r0 rfl rfl) rfl hl.1 (Nat.le_of_ble_eq_true rfl) (by decide) (by decide) hRc hRs d_Ma_repeatFirstLetters_40) hF (fun H locs hP hF _ => ?_)
                  refine lv_iload_n hx hb d_Ma_repeatFirstLetters_43 rfl (lv_at hl 1 rfl) ?_
                  refine lv_iload_n hx hb d_Ma_repeatFirstLetters_44 rfl (lv_at hl 3 rfl) ?_
                  rcases mm_bd_some h with ⟨z13, g14, hf15, h⟩ | ⟨xe, z13, g14, hf15, h⟩
                  · refine mm_goR (v := none) (mm_goV (As := [.ref (L.2.1 14 z10), .int x1, .int x3]) (rest := []) hX (c_Ma_postFirst hv_r0 (rl_Ma_lineBetween hv_r0 hf12) hf15) yw_Ma_postFirst wt_375 wt_377 ws_0_7 hP hF (mm_recv (h := 12) (i := r0) hX hP hv_r0 rfl rfl) rfl hl.1 (Nat.le_of_ble_eq_true rfl) (by decide) (by decide) hRc hRs d_Ma_repeatFirstLetters_45) hF (fun H locs hP hF _ => ?_)
                    refine lv_iinc (k := 2) (v := (x2 + 1)) hx hb d_Ma_repeatFirstLetters_48 hl rfl (congrArg (fun z => x2 + z) mm_i1) (Nat.lt_of_lt_of_le (Nat.lt_succ_self _) (Nat.le_of_ble_eq_true rfl)) rfl (fun ls hl => ?_)
                    have hl : lv_has ls 4 [(2, .int (x2 + 1)), (0, .ref (L.2.1 12 r0)), (1, .int x1), (3, .int x3)] := hl
                    refine lv_iinc (k := 3) (v := (x3 + 1)) hx hb d_Ma_repeatFirstLetters_51 hl rfl (congrArg (fun z => x3 + z) mm_i1) (Nat.lt_of_lt_of_le (Nat.lt_succ_self _) (Nat.le_of_ble_eq_true rfl)) rfl (fun ls hl => ?_)
                    have hl : lv_has ls 4 [(3, .int (x3 + 1)), (2, .int (x2 + 1)), (0, .ref (L.2.1 12 r0)), (1, .int x1)] := hl
                    refine lv_goto (tgt := 4) hx hb d_Ma_repeatFirstLetters_54 rfl ?_
                    exact ih _ _ _ _ _ _ _ _ h hP hF (lv_sub (l' := [(0, .ref (L.2.1 12 r0)), (1, .int x1), (2, .int (x2 + 1)), (3, .int (x3 + 1))]) hl [2, 3, 1, 0] rfl) hv_r0
                  · cases h
                    exact mm_goT (x := xe + 1) (mm_goV (As := [.ref (L.2.1 14 z10), .int x1, .int x3]) (rest := []) hX (c_Ma_postFirst hv_r0 (rl_Ma_lineBetween hv_r0 hf12) hf15) yw_Ma_postFirst wt_375 wt_377 ws_0_7 hP hF (mm_recv (h := 12) (i := r0) hX hP hv_r0 rfl rfl) rfl hl.1 (Nat.le_of_ble_eq_true rfl) (by decide) (by decide) hRc hRs d_Ma_repeatFirstLetters_45) hF hex hlk
                · cases h
                  exact mm_goT (x := xe + 1) (mm_goV (As := [.int x1, .int x3]) (rest := [.ref (L.2.1 12 r0)]) hX (c_Ma_lineBetween hv_r0 hf12) yw_Ma_lineBetween wt_363 wt_365 ws_0_6 hP hF (mm_recv (h := 12) (i := r0) hX hP hv_r0 rfl rfl) rfl hl.1 (Nat.le_of_ble_eq_true rfl) (by decide) (by decide) hRc hRs d_Ma_repeatFirstLetters_40) hF hex hlk
            · cases h
              exact mm_goT (x := xe + 1) (mm_goV (As := []) (rest := []) hX (c_Li_isEmpty (rl_Ma_lineBetween hv_r0 hf6) hf9) yw_Li_isEmpty wt_187 wt_188 wt_189 hP hF (mm_recv (h := 14) (i := z4) hX hP (rl_Ma_lineBetween hv_r0 hf6) rfl rfl) rfl hl.1 (Nat.le_of_ble_eq_true rfl) (by decide) (by decide) hRc hRs d_Ma_repeatFirstLetters_30) hF hex hlk
          · cases h
            exact mm_goT (x := xe + 1) (mm_goV (As := [.int x1, .int x3]) (rest := []) hX (c_Ma_lineBetween hv_r0 hf6) yw_Ma_lineBetween wt_363 wt_365 ws_0_6 hP hF (mm_recv (h := 12) (i := r0) hX hP hv_r0 rfl rfl) rfl hl.1 (Nat.le_of_ble_eq_true rfl) (by decide) (by decide) hRc hRs d_Ma_repeatFirstLetters_27) hF hex hlk
      · cases h
        exact mm_goT (x := xe + 1) (mm_goV (As := [.int x1, .int x3]) (rest := []) hX (c_Tr_areNeighbours mm_ls2 hf3) yw_Tr_areNeighbours wt_451 wt_452 wt_453 hP hF (mm_recv (h := 2) (i := 0) hX hP mm_ls2 rfl rfl) rfl hl.1 (Nat.le_of_ble_eq_true rfl) (by decide) (by decide) hRc hRs d_Ma_repeatFirstLetters_18) hF hex hlk
def f_Ma_repeatFirstLetters (n : Nat) (g : mm_M) (r0 : Nat) (x1 : Int32) : Option (Nat × Int32 × mm_M) :=
  f_Ma_repeatFirstLetters_l4 n 4096 g r0 x1 0 0
set_option maxRecDepth 100000 in
set_option maxHeartbeats 4000000 in
theorem w_Ma_repeatFirstLetters {p : Program} {l : Launch} {e : Env} {R : Room} {s : State} {m : MethodId} {args : Array Value} {below : List Frame} {meth : Method} {c : Code} {L : mm_L} {eo : Nat} {v : Int32} {g' : mm_M} {g : mm_M} {r0 : Nat} {x1 : Int32} {H : Heap} {locs : List Loc} {ls : Array Slot} (hX : mm_X L prog_5_method_4_code 4 "LoanArrows$Mail" (some .int) 2 50 p l R s m meth c) (h : f_Ma_repeatFirstLetters L.1 g r0 x1 = some (eo, v, g')) (hP : mm_P L g H) (hF : ∀ q ∈ locs, mm_F L q.base) (hl : lv_has ls 4 [(0, .ref (L.2.1 12 r0)), (1, .int x1)]) (hv_r0 : mm_lv L.1 12 r0) : W p l e R s m args below meth c H locs 0 0 (mm_Q below L s (mm_oi eo v) g') (F0 m 0 ls []) := by
  have hX0 := hX
  obtain ⟨hx, hb, hml, hown, hr, hlk, hex, hRf, hRl, hRc, hRs, hJ, hK, hst, h00⟩ := hX0
  unfold f_Ma_repeatFirstLetters at h
  refine lv_iconst (v := 0) hx hb d_Ma_repeatFirstLetters_0 (by decide) ?_
  refine lv_istore_n hx hb d_Ma_repeatFirstLetters_1 rfl hl (Nat.lt_of_lt_of_le (Nat.lt_succ_self _) (Nat.le_of_ble_eq_true rfl)) rfl (fun ls hl => ?_)
  have hl : lv_has ls 4 [(2, .int 0), (0, .ref (L.2.1 12 r0)), (1, .int x1)] := hl
  refine lv_iconst (v := 0) hx hb d_Ma_repeatFirstLetters_2 (by decide) ?_
  refine lv_istore_n hx hb d_Ma_repeatFirstLetters_3 rfl hl (Nat.lt_of_lt_of_le (Nat.lt_succ_self _) (Nat.le_of_ble_eq_true rfl)) rfl (fun ls hl => ?_)
  have hl : lv_has ls 4 [(3, .int 0), (2, .int 0), (0, .ref (L.2.1 12 r0)), (1, .int x1)] := hl
  exact w_Ma_repeatFirstLetters_l4 hX _ _ _ _ _ _ _ _ _ h hP hF (lv_sub (l' := [(0, .ref (L.2.1 12 r0)), (1, .int x1), (2, .int 0), (3, .int 0)]) hl [2, 3, 1, 0] rfl) hv_r0
set_option maxRecDepth 100000 in
set_option maxHeartbeats 4000000 in
theorem c_Ma_repeatFirstLetters {l : Launch} {L : mm_L} {g g' : mm_M} {eo : Nat} {v : Int32} {r0 : Nat} {x1 : Int32} (hv_r0 : mm_lv L.1 12 r0) (h : f_Ma_repeatFirstLetters L.1 g r0 x1 = some (eo, v, g')) : mm_C l y_Ma_repeatFirstLetters prog_5_method_4_code 4 (some .int) 2 50 L [.ref (L.2.1 12 r0), .int x1] g (mm_oi eo v) g' := by
  intro p e R s m below meth c hX hP
  refine mm_enter (Nat.le_of_ble_eq_true rfl) fun ls hl => ?_
  exact w_Ma_repeatFirstLetters hX h hP (fun q hq => by cases hq) (lv_sub (l' := [(0, .ref (L.2.1 12 r0)), (1, .int x1)]) hl [0, 1] rfl) hv_r0
def f_Ma_takesNext (n : Nat) (g : mm_M) (r0 : Nat) (x1 : Int32) (x2 : Int32) (x3 : Int32) : Option (Nat × Int32 × mm_M) :=
  mm_bd (f_Ma_lineBetween n g r0 x1 x2) 0 (fun z1 g2 => mm_bd (f_Li_takesNext n g2 z1 x3) 0 (fun z4 g5 => mm_nz z4 (some (0, z4, g5))))
set_option maxRecDepth 100000 in
set_option maxHeartbeats 4000000 in
theorem w_Ma_takesNext {p : Program} {l : Launch} {e : Env} {R : Room} {s : State} {m : MethodId} {args : Array Value} {below : List Frame} {meth : Method} {c : Code} {L : mm_L} {eo : Nat} {v : Int32} {g' : mm_M} {g : mm_M} {r0 : Nat} {x1 : Int32} {x2 : Int32} {x3 : Int32} {H : Heap} {locs : List Loc} {ls : Array Slot} (hX : mm_X L prog_5_method_5_code 4 "LoanArrows$Mail" (some .boolean) 2 44 p l R s m meth c) (h : f_Ma_takesNext L.1 g r0 x1 x2 x3 = some (eo, v, g')) (hP : mm_P L g H) (hF : ∀ q ∈ locs, mm_F L q.base) (hl : lv_has ls 4 [(0, .ref (L.2.1 12 r0)), (1, .int x1), (2, .int x2), (3, .int x3)]) (hv_r0 : mm_lv L.1 12 r0) : W p l e R s m args below meth c H locs 0 0 (mm_Q below L s (mm_oi eo v) g') (F0 m 0 ls []) := by
  have hX0 := hX
  obtain ⟨hx, hb, hml, hown, hr, hlk, hex, hRf, hRl, hRc, hRs, hJ, hK, hst, h00⟩ := hX0
  unfold f_Ma_takesNext at h
  refine lv_aload_n hx hb d_Ma_takesNext_0 rfl (lv_at hl 0 rfl) ?_
  refine lv_iload_n hx hb d_Ma_takesNext_1 rfl (lv_at hl 1 rfl) ?_
  refine lv_iload_n hx hb d_Ma_takesNext_2 rfl (lv_at hl 2 rfl) ?_
  rcases mm_bd_some h with ⟨z1, g2, hf3, h⟩ | ⟨xe, z1, g2, hf3, h⟩
  · refine mm_goR (v := (some (.ref (L.2.1 14 z1)))) (mm_goV (As := [.int x1, .int x2]) (rest := []) hX (c_Ma_lineBetween hv_r0 hf3) yw_Ma_lineBetween wt_363 wt_365 ws_0_6 hP hF (mm_recv (h := 12) (i := r0) hX hP hv_r0 rfl rfl) rfl hl.1 (Nat.le_of_ble_eq_true rfl) (by decide) (by decide) hRc hRs d_Ma_takesNext_3) hF (fun H locs hP hF _ => ?_)
    refine lv_iload_n hx hb d_Ma_takesNext_6 rfl (lv_at hl 3 rfl) ?_
    rcases mm_bd_some h with ⟨z4, g5, hf6, h⟩ | ⟨xe, z4, g5, hf6, h⟩
    · refine mm_goR (v := (some (.int z4))) (mm_goV (As := [.int x3]) (rest := []) hX (c_Li_takesNext (rl_Ma_lineBetween hv_r0 hf3) hf6) yw_Li_takesNext wt_495 wt_496 wt_497 hP hF (mm_recv (h := 14) (i := z1) hX hP (rl_Ma_lineBetween hv_r0 hf3) rfl rfl) rfl hl.1 (Nat.le_of_ble_eq_true rfl) (by decide) (by decide) hRc hRs d_Ma_takesNext_7) hF (fun H locs hP hF _ => ?_)
      obtain ⟨hn, h⟩ := mm_nz_some h
      cases h
      exact mm_zret hx hb hr hn hlk hP hF d_Ma_takesNext_10
    · cases h
      exact mm_goT (x := xe + 1) (mm_goV (As := [.int x3]) (rest := []) hX (c_Li_takesNext (rl_Ma_lineBetween hv_r0 hf3) hf6) yw_Li_takesNext wt_495 wt_496 wt_497 hP hF (mm_recv (h := 14) (i := z1) hX hP (rl_Ma_lineBetween hv_r0 hf3) rfl rfl) rfl hl.1 (Nat.le_of_ble_eq_true rfl) (by decide) (by decide) hRc hRs d_Ma_takesNext_7) hF hex hlk
  · cases h
    exact mm_goT (x := xe + 1) (mm_goV (As := [.int x1, .int x2]) (rest := []) hX (c_Ma_lineBetween hv_r0 hf3) yw_Ma_lineBetween wt_363 wt_365 ws_0_6 hP hF (mm_recv (h := 12) (i := r0) hX hP hv_r0 rfl rfl) rfl hl.1 (Nat.le_of_ble_eq_true rfl) (by decide) (by decide) hRc hRs d_Ma_takesNext_3) hF hex hlk
set_option maxRecDepth 100000 in
set_option maxHeartbeats 4000000 in
theorem c_Ma_takesNext {l : Launch} {L : mm_L} {g g' : mm_M} {eo : Nat} {v : Int32} {r0 : Nat} {x1 : Int32} {x2 : Int32} {x3 : Int32} (hv_r0 : mm_lv L.1 12 r0) (h : f_Ma_takesNext L.1 g r0 x1 x2 x3 = some (eo, v, g')) : mm_C l y_Ma_takesNext prog_5_method_5_code 4 (some .boolean) 2 44 L [.ref (L.2.1 12 r0), .int x1, .int x2, .int x3] g (mm_oi eo v) g' := by
  intro p e R s m below meth c hX hP
  refine mm_enter (Nat.le_of_ble_eq_true rfl) fun ls hl => ?_
  exact w_Ma_takesNext hX h hP (fun q hq => by cases hq) (lv_sub (l' := [(0, .ref (L.2.1 12 r0)), (1, .int x1), (2, .int x2), (3, .int x3)]) hl [0, 1, 2, 3] rfl) hv_r0
def f_Ma_acknowledged_b35 (n : Nat) (g : mm_M)  : Option (Nat × Int32 × mm_M) :=
  mm_nz 1 (some (0, 1, g))
set_option maxRecDepth 100000 in
set_option maxHeartbeats 4000000 in
theorem w_Ma_acknowledged_b35 {p : Program} {l : Launch} {e : Env} {R : Room} {s : State} {m : MethodId} {args : Array Value} {below : List Frame} {meth : Method} {c : Code} {L : mm_L} {eo : Nat} {v : Int32} {g' : mm_M} {g : mm_M} {H : Heap} {locs : List Loc} {ls : Array Slot} (hX : mm_X L prog_5_method_6_code 5 "LoanArrows$Mail" (some .boolean) 2 50 p l R s m meth c) (h : f_Ma_acknowledged_b35 L.1 g = some (eo, v, g')) (hP : mm_P L g H) (hF : ∀ q ∈ locs, mm_F L q.base) (hl : lv_has ls 5 []) : W p l e R s m args below meth c H locs 0 0 (mm_Q below L s (mm_oi eo v) g') (F0 m 35 ls []) := by
  have hX0 := hX
  obtain ⟨hx, hb, hml, hown, hr, hlk, hex, hRf, hRl, hRc, hRs, hJ, hK, hst, h00⟩ := hX0
  unfold f_Ma_acknowledged_b35 at h
  refine lv_iconst (v := 1) hx hb d_Ma_acknowledged_35 (by decide) ?_
  obtain ⟨hn, h⟩ := mm_nz_some h
  cases h
  exact mm_zret hx hb hr hn hlk hP hF d_Ma_acknowledged_36
def f_Ma_acknowledged (n : Nat) (g : mm_M) (r0 : Nat) (x1 : Int32) (x2 : Int32) (x3 : Int32) : Option (Nat × Int32 × mm_M) :=
  mm_bd (f_Ma_lineBetween n g r0 x1 x2) 0 (fun z1 g2 => mm_bd (f_Li_removeFirst n g2 z1 x3) 0 (fun z4 g5 => (if z4 = 0 then mm_nz 0 (some (0, 0, g5)) else mm_bd (f_Li_isEmpty n g5 z1) 0 (fun z7 g8 => (if z7 = 0 then mm_bd (f_Ma_postFirst n g8 r0 z1 x1 x2) 0 (fun z10 g11 => f_Ma_acknowledged_b35 n g11) else f_Ma_acknowledged_b35 n g8)))))
set_option maxRecDepth 100000 in
set_option maxHeartbeats 4000000 in
theorem w_Ma_acknowledged {p : Program} {l : Launch} {e : Env} {R : Room} {s : State} {m : MethodId} {args : Array Value} {below : List Frame} {meth : Method} {c : Code} {L : mm_L} {eo : Nat} {v : Int32} {g' : mm_M} {g : mm_M} {r0 : Nat} {x1 : Int32} {x2 : Int32} {x3 : Int32} {H : Heap} {locs : List Loc} {ls : Array Slot} (hX : mm_X L prog_5_method_6_code 5 "LoanArrows$Mail" (some .boolean) 2 50 p l R s m meth c) (h : f_Ma_acknowledged L.1 g r0 x1 x2 x3 = some (eo, v, g')) (hP : mm_P L g H) (hF : ∀ q ∈ locs, mm_F L q.base) (hl : lv_has ls 5 [(0, .ref (L.2.1 12 r0)), (1, .int x1), (2, .int x2), (3, .int x3)]) (hv_r0 : mm_lv L.1 12 r0) : W p l e R s m args below meth c H locs 0 0 (mm_Q below L s (mm_oi eo v) g') (F0 m 0 ls []) := by
  have hX0 := hX
  obtain ⟨hx, hb, hml, hown, hr, hlk, hex, hRf, hRl, hRc, hRs, hJ, hK, hst, h00⟩ := hX0
  unfold f_Ma_acknowledged at h
  refine lv_aload_n hx hb d_Ma_acknowledged_0 rfl (lv_at hl 0 rfl) ?_
  refine lv_iload_n hx hb d_Ma_acknowledged_1 rfl (lv_at hl 1 rfl) ?_
  refine lv_iload_n hx hb d_Ma_acknowledged_2 rfl (lv_at hl 2 rfl) ?_
  rcases mm_bd_some h with ⟨z1, g2, hf3, h⟩ | ⟨xe, z1, g2, hf3, h⟩
  · refine mm_goR (v := (some (.ref (L.2.1 14 z1)))) (mm_goV (As := [.int x1, .int x2]) (rest := []) hX (c_Ma_lineBetween hv_r0 hf3) yw_Ma_lineBetween wt_363 wt_365 ws_0_6 hP hF (mm_recv (h := 12) (i := r0) hX hP hv_r0 rfl rfl) rfl hl.1 (Nat.le_of_ble_eq_true rfl) (by decide) (by decide) hRc hRs d_Ma_acknowledged_3) hF (fun H locs hP hF _ => ?_)
    refine lv_astore hx hb d_Ma_acknowledged_6 hl (Nat.lt_of_lt_of_le (Nat.lt_succ_self _) (Nat.le_of_ble_eq_true rfl)) rfl (fun ls hl => ?_)
    have hl : lv_has ls 5 [(4, .ref (L.2.1 14 z1)), (0, .ref (L.2.1 12 r0)), (1, .int x1), (2, .int x2), (3, .int x3)] := hl
    refine lv_aload hx hb d_Ma_acknowledged_8 (lv_at hl 0 rfl) ?_
    refine lv_iload_n hx hb d_Ma_acknowledged_10 rfl (lv_at hl 4 rfl) ?_
    rcases mm_bd_some h with ⟨z4, g5, hf6, h⟩ | ⟨xe, z4, g5, hf6, h⟩
    · refine mm_goR (v := (some (.int z4))) (mm_goV (As := [.int x3]) (rest := []) hX (c_Li_removeFirst (rl_Ma_lineBetween hv_r0 hf3) hf6) yw_Li_removeFirst wt_508 wt_509 wt_510 hP hF (mm_recv (h := 14) (i := z1) hX hP (rl_Ma_lineBetween hv_r0 hf3) rfl rfl) rfl hl.1 (Nat.le_of_ble_eq_true rfl) (by decide) (by decide) hRc hRs d_Ma_acknowledged_11) hF (fun H locs hP hF _ => ?_)
      refine lv_if_ne (tgt := 19) hx hb d_Ma_acknowledged_14 rfl (fun hc => ?_) (fun hc => ?_)
      · have h := mm_neg hc h
        refine lv_aload hx hb d_Ma_acknowledged_19 (lv_at hl 0 rfl) ?_
        rcases mm_bd_some h with ⟨z7, g8, hf9, h⟩ | ⟨xe, z7, g8, hf9, h⟩
        · refine mm_goR (v := (some (.int z7))) (mm_goV (As := []) (rest := []) hX (c_Li_isEmpty (rl_Ma_lineBetween hv_r0 hf3) hf9) yw_Li_isEmpty wt_187 wt_188 wt_189 hP hF (mm_recv (h := 14) (i := z1) hX hP (rl_Ma_lineBetween hv_r0 hf3) rfl rfl) rfl hl.1 (Nat.le_of_ble_eq_true rfl) (by decide) (by decide) hRc hRs d_Ma_acknowledged_21) hF (fun H locs hP hF _ => ?_)
          refine lv_if_ne (tgt := 35) hx hb d_Ma_acknowledged_24 rfl (fun hc => ?_) (fun hc => ?_)
          · have h := mm_neg hc h
            exact w_Ma_acknowledged_b35 hX h hP hF (lv_sub (l' := []) hl [] rfl)
          · have h := mm_pos hc h
            refine lv_aload_n hx hb d_Ma_acknowledged_27 rfl (lv_at hl 1 rfl) ?_
            refine lv_aload hx hb d_Ma_acknowledged_28 (lv_at hl 0 rfl) ?_
            refine lv_iload_n hx hb d_Ma_acknowledged_30 rfl (lv_at hl 2 rfl) ?_
            refine lv_iload_n hx hb d_Ma_acknowledged_31 rfl (lv_at hl 3 rfl) ?_
            rcases mm_bd_some h with ⟨z10, g11, hf12, h⟩ | ⟨xe, z10, g11, hf12, h⟩
            · refine mm_goR (v := none) (mm_goV (As := [.ref (L.2.1 14 z1), .int x1, .int x2]) (rest := []) hX (c_Ma_postFirst hv_r0 (rl_Ma_lineBetween hv_r0 hf3) hf12) yw_Ma_postFirst wt_375 wt_377 ws_0_7 hP hF (mm_recv (h := 12) (i := r0) hX hP hv_r0 rfl rfl) rfl hl.1 (Nat.le_of_ble_eq_true rfl) (by decide) (by decide) hRc hRs d_Ma_acknowledged_32) hF (fun H locs hP hF _ => ?_)
              exact w_Ma_acknowledged_b35 hX h hP hF (lv_sub (l' := []) hl [] rfl)
            · cases h
              exact mm_goT (x := xe + 1) (mm_goV (As := [.ref (L.2.1 14 z1), .int x1, .int x2]) (rest := []) hX (c_Ma_postFirst hv_r0 (rl_Ma_lineBetween hv_r0 hf3) hf12) yw_Ma_postFirst wt_375 wt_377 ws_0_7 hP hF (mm_recv (h := 12) (i := r0) hX hP hv_r0 rfl rfl) rfl hl.1 (Nat.le_of_ble_eq_true rfl) (by decide) (by decide) hRc hRs d_Ma_acknowledged_32) hF hex hlk
        · cases h
          exact mm_goT (x := xe + 1) (mm_goV (As := []) (rest := []) hX (c_Li_isEmpty (rl_Ma_lineBetween hv_r0 hf3) hf9) yw_Li_isEmpty wt_187 wt_188 wt_189 hP hF (mm_recv (h := 14) (i := z1) hX hP (rl_Ma_lineBetween hv_r0 hf3) rfl rfl) rfl hl.1 (Nat.le_of_ble_eq_true rfl) (by decide) (by decide) hRc hRs d_Ma_acknowledged_21) hF hex hlk
      · have h := mm_pos hc h
        refine lv_iconst (v := 0) hx hb d_Ma_acknowledged_17 (by decide) ?_
        obtain ⟨hn, h⟩ := mm_nz_some h
        cases h
        exact mm_zret hx hb hr hn hlk hP hF d_Ma_acknowledged_18
    · cases h
      exact mm_goT (x := xe + 1) (mm_goV (As := [.int x3]) (rest := []) hX (c_Li_removeFirst (rl_Ma_lineBetween hv_r0 hf3) hf6) yw_Li_removeFirst wt_508 wt_509 wt_510 hP hF (mm_recv (h := 14) (i := z1) hX hP (rl_Ma_lineBetween hv_r0 hf3) rfl rfl) rfl hl.1 (Nat.le_of_ble_eq_true rfl) (by decide) (by decide) hRc hRs d_Ma_acknowledged_11) hF hex hlk
  · cases h
    exact mm_goT (x := xe + 1) (mm_goV (As := [.int x1, .int x2]) (rest := []) hX (c_Ma_lineBetween hv_r0 hf3) yw_Ma_lineBetween wt_363 wt_365 ws_0_6 hP hF (mm_recv (h := 12) (i := r0) hX hP hv_r0 rfl rfl) rfl hl.1 (Nat.le_of_ble_eq_true rfl) (by decide) (by decide) hRc hRs d_Ma_acknowledged_3) hF hex hlk
set_option maxRecDepth 100000 in
set_option maxHeartbeats 4000000 in
theorem c_Ma_acknowledged {l : Launch} {L : mm_L} {g g' : mm_M} {eo : Nat} {v : Int32} {r0 : Nat} {x1 : Int32} {x2 : Int32} {x3 : Int32} (hv_r0 : mm_lv L.1 12 r0) (h : f_Ma_acknowledged L.1 g r0 x1 x2 x3 = some (eo, v, g')) : mm_C l y_Ma_acknowledged prog_5_method_6_code 5 (some .boolean) 2 50 L [.ref (L.2.1 12 r0), .int x1, .int x2, .int x3] g (mm_oi eo v) g' := by
  intro p e R s m below meth c hX hP
  refine mm_enter (Nat.le_of_ble_eq_true rfl) fun ls hl => ?_
  exact w_Ma_acknowledged hX h hP (fun q hq => by cases hq) (lv_sub (l' := [(0, .ref (L.2.1 12 r0)), (1, .int x1), (2, .int x2), (3, .int x3)]) hl [0, 1, 2, 3] rfl) hv_r0
def f_Ma_isEmpty_l2 (n : Nat) : Nat → mm_M → Nat → Int32 → Option (Nat × Int32 × mm_M)
  | 0, _, _, _ => none
  | k + 1, g, r0, x1 => (if (Int32.ofNat (2 * n)) ≤ x1 then mm_nz 1 (some (0, 1, g)) else mm_ix x1 (2 * n) (mm_bd (f_Li_isEmpty n g x1.toNatClampNeg) 0 (fun z2 g3 => (if z2 = 0 then mm_nz 0 (some (0, 0, g3)) else f_Ma_isEmpty_l2 n k g3 r0 (x1 + 1)))))
set_option maxRecDepth 100000 in
set_option maxHeartbeats 4000000 in
theorem w_Ma_isEmpty_l2 {p : Program} {l : Launch} {e : Env} {R : Room} {s : State} {m : MethodId} {args : Array Value} {below : List Frame} {meth : Method} {c : Code} {L : mm_L} {eo : Nat} {v : Int32} {g' : mm_M} (hX : mm_X L prog_5_method_7_code 2 "LoanArrows$Mail" (some .boolean) 1 20 p l R s m meth c) : ∀ (k : Nat) (g : mm_M) (r0 : Nat) (x1 : Int32) (H : Heap) (locs : List Loc) (ls : Array Slot), f_Ma_isEmpty_l2 L.1 k g r0 x1 = some (eo, v, g') → mm_P L g H → (∀ q ∈ locs, mm_F L q.base) → lv_has ls 2 [(0, .ref (L.2.1 12 r0)), (1, .int x1)] → mm_lv L.1 12 r0 → W p l e R s m args below meth c H locs 0 0 (mm_Q below L s (mm_oi eo v) g') (F0 m 2 ls []) := by
  have hX0 := hX
  obtain ⟨hx, hb, hml, hown, hr, hlk, hex, hRf, hRl, hRc, hRs, hJ, hK, hst, h00⟩ := hX0
  intro k
  induction k with
  | zero =>
    intro g r0 x1 H locs ls h hP hF hl hv_r0
    rw [f_Ma_isEmpty_l2] at h
    cases h
  | succ k ih =>
    intro g r0 x1 H locs ls h hP hF hl hv_r0
    rw [f_Ma_isEmpty_l2] at h
    refine lv_iload_n hx hb d_Ma_isEmpty_2 rfl (lv_at hl 1 rfl) ?_
    refine lv_aload_n hx hb d_Ma_isEmpty_3 rfl (lv_at hl 0 rfl) ?_
    refine mm_get (h := 12) (i := r0) 3 hX hP hv_r0 rfl rfl uin_12 (by decide) ⟨rfl, rfl, rfl⟩ wt_146 rfl d_Ma_isEmpty_4 ?_
    refine mm_alen (t := 4) (h := 13) (i := 0) hX hP mm_ls13 rfl rfl rfl d_Ma_isEmpty_7 ?_
    refine lv_icmp_ge (tgt := 31) hx hb d_Ma_isEmpty_8 rfl (fun hc => ?_) (fun hc => ?_)
    · have h := mm_pos hc h
      refine lv_iconst (v := 1) hx hb d_Ma_isEmpty_31 (by decide) ?_
      obtain ⟨hn, h⟩ := mm_nz_some h
      cases h
      exact mm_zret hx hb hr hn hlk hP hF d_Ma_isEmpty_32
    · have h := mm_neg hc h
      refine lv_aload_n hx hb d_Ma_isEmpty_11 rfl (lv_at hl 0 rfl) ?_
      refine mm_get (h := 12) (i := r0) 3 hX hP hv_r0 rfl rfl uin_12 (by decide) ⟨rfl, rfl, rfl⟩ wt_146 rfl d_Ma_isEmpty_12 ?_
      refine lv_iload_n hx hb d_Ma_isEmpty_15 rfl (lv_at hl 1 rfl) ?_
      obtain ⟨hin1, h⟩ := mm_ix_some h
      refine mm_aald (t := 4) (h := 13) (i := 0) hX hP mm_ls13 rfl rfl rfl hin1 d_Ma_isEmpty_16 ?_
      rcases mm_bd_some h with ⟨z2, g3, hf4, h⟩ | ⟨xe, z2, g3, hf4, h⟩
      · refine mm_goR (v := (some (.int z2))) (mm_goV (As := []) (rest := []) hX (c_Li_isEmpty (mm_l14 (n := L.1) hin1) hf4) yw_Li_isEmpty wt_187 wt_188 wt_189 hP hF (mm_recv (h := 14) (i := x1.toNatClampNeg) hX hP (mm_l14 (n := L.1) hin1) rfl rfl) rfl hl.1 (Nat.le_of_ble_eq_true rfl) (by decide) (by decide) hRc hRs d_Ma_isEmpty_17) hF (fun H locs hP hF _ => ?_)
        refine lv_if_ne (tgt := 25) hx hb d_Ma_isEmpty_20 rfl (fun hc => ?_) (fun hc => ?_)
        · have h := mm_neg hc h
          refine lv_iinc (k := 1) (v := (x1 + 1)) hx hb d_Ma_isEmpty_25 hl rfl (congrArg (fun z => x1 + z) mm_i1) (Nat.lt_of_lt_of_le (Nat.lt_succ_self _) (Nat.le_of_ble_eq_true rfl)) rfl (fun ls hl => ?_)
          have hl : lv_has ls 2 [(1, .int (x1 + 1)), (0, .ref (L.2.1 12 r0))] := hl
          refine lv_goto (tgt := 2) hx hb d_Ma_isEmpty_28 rfl ?_
          exact ih _ _ _ _ _ _ h hP hF (lv_sub (l' := [(0, .ref (L.2.1 12 r0)), (1, .int (x1 + 1))]) hl [1, 0] rfl) hv_r0
        · have h := mm_pos hc h
          refine lv_iconst (v := 0) hx hb d_Ma_isEmpty_23 (by decide) ?_
          obtain ⟨hn, h⟩ := mm_nz_some h
          cases h
          exact mm_zret hx hb hr hn hlk hP hF d_Ma_isEmpty_24
      · cases h
        exact mm_goT (x := xe + 1) (mm_goV (As := []) (rest := []) hX (c_Li_isEmpty (mm_l14 (n := L.1) hin1) hf4) yw_Li_isEmpty wt_187 wt_188 wt_189 hP hF (mm_recv (h := 14) (i := x1.toNatClampNeg) hX hP (mm_l14 (n := L.1) hin1) rfl rfl) rfl hl.1 (Nat.le_of_ble_eq_true rfl) (by decide) (by decide) hRc hRs d_Ma_isEmpty_17) hF hex hlk
def f_Ma_isEmpty (n : Nat) (g : mm_M) (r0 : Nat) : Option (Nat × Int32 × mm_M) :=
  f_Ma_isEmpty_l2 n 4096 g r0 0
set_option maxRecDepth 100000 in
set_option maxHeartbeats 4000000 in
theorem w_Ma_isEmpty {p : Program} {l : Launch} {e : Env} {R : Room} {s : State} {m : MethodId} {args : Array Value} {below : List Frame} {meth : Method} {c : Code} {L : mm_L} {eo : Nat} {v : Int32} {g' : mm_M} {g : mm_M} {r0 : Nat} {H : Heap} {locs : List Loc} {ls : Array Slot} (hX : mm_X L prog_5_method_7_code 2 "LoanArrows$Mail" (some .boolean) 1 20 p l R s m meth c) (h : f_Ma_isEmpty L.1 g r0 = some (eo, v, g')) (hP : mm_P L g H) (hF : ∀ q ∈ locs, mm_F L q.base) (hl : lv_has ls 2 [(0, .ref (L.2.1 12 r0))]) (hv_r0 : mm_lv L.1 12 r0) : W p l e R s m args below meth c H locs 0 0 (mm_Q below L s (mm_oi eo v) g') (F0 m 0 ls []) := by
  have hX0 := hX
  obtain ⟨hx, hb, hml, hown, hr, hlk, hex, hRf, hRl, hRc, hRs, hJ, hK, hst, h00⟩ := hX0
  unfold f_Ma_isEmpty at h
  refine lv_iconst (v := 0) hx hb d_Ma_isEmpty_0 (by decide) ?_
  refine lv_istore_n hx hb d_Ma_isEmpty_1 rfl hl (Nat.lt_of_lt_of_le (Nat.lt_succ_self _) (Nat.le_of_ble_eq_true rfl)) rfl (fun ls hl => ?_)
  have hl : lv_has ls 2 [(1, .int 0), (0, .ref (L.2.1 12 r0))] := hl
  exact w_Ma_isEmpty_l2 hX _ _ _ _ _ _ _ h hP hF (lv_sub (l' := [(0, .ref (L.2.1 12 r0)), (1, .int 0)]) hl [1, 0] rfl) hv_r0
set_option maxRecDepth 100000 in
set_option maxHeartbeats 4000000 in
theorem c_Ma_isEmpty {l : Launch} {L : mm_L} {g g' : mm_M} {eo : Nat} {v : Int32} {r0 : Nat} (hv_r0 : mm_lv L.1 12 r0) (h : f_Ma_isEmpty L.1 g r0 = some (eo, v, g')) : mm_C l y_Ma_isEmpty prog_5_method_7_code 2 (some .boolean) 1 20 L [.ref (L.2.1 12 r0)] g (mm_oi eo v) g' := by
  intro p e R s m below meth c hX hP
  refine mm_enter (Nat.le_of_ble_eq_true rfl) fun ls hl => ?_
  exact w_Ma_isEmpty hX h hP (fun q hq => by cases hq) (lv_sub (l' := [(0, .ref (L.2.1 12 r0))]) hl [0] rfl) hv_r0

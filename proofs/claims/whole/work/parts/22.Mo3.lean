def f_Mo_sendAll_b50 (n : Nat) (g : mm_M) (t0 : Int32) : Option (Nat × Int32 × mm_M) :=
  some (0, t0, g)
set_option maxRecDepth 100000 in
set_option maxHeartbeats 4000000 in
theorem w_Mo_sendAll_b50 {p : Program} {l : Launch} {e : Env} {R : Room} {s : State} {m : MethodId} {args : Array Value} {below : List Frame} {meth : Method} {c : Code} {L : mm_L} {eo : Nat} {v : Int32} {g' : mm_M} {g : mm_M} {t0 : Int32} {H : Heap} {locs : List Loc} {ls : Array Slot} (hX : mm_X L prog_9_method_25_code 3 "LoanArrowsModel" (some .int) 3 74 p l R s m meth c) (h : f_Mo_sendAll_b50 L.1 g t0 = some (eo, v, g')) (hP : mm_P L g H) (hF : ∀ q ∈ locs, mm_F L q.base) (hl : lv_has ls 3 []) : W p l e R s m args below meth c H locs 0 0 (mm_Q below L s (mm_oi eo v) g') (F0 m 50 ls [.int t0]) := by
  have hX0 := hX
  obtain ⟨hx, hb, hml, hown, hr, hlk, hex, hRf, hRl, hRc, hRs, hJ, hK, hst, h00⟩ := hX0
  unfold f_Mo_sendAll_b50 at h
  cases h
  exact mm_iret hx hb hr hlk hP hF d_Mo_sendAll_50
def f_Mo_sendAll_b34 (n : Nat) (g : mm_M) (r0 : Nat) (x1 : Int32) (u0 : Nat) (t1 : Int32) (t2 : Int32) : Option (Nat × Int32 × mm_M) :=
  mm_bd (f_Mo_refused n g u0 t1 t2 0) 0 (fun z1 g2 => (if z1 = 0 then mm_bd (f_Mo_sendFirsts n g2 r0 x1) 0 (fun z4 g5 => f_Mo_sendAll_b50 n g5 z4) else f_Mo_sendAll_b50 n g2 0))
set_option maxRecDepth 100000 in
set_option maxHeartbeats 4000000 in
theorem w_Mo_sendAll_b34 {p : Program} {l : Launch} {e : Env} {R : Room} {s : State} {m : MethodId} {args : Array Value} {below : List Frame} {meth : Method} {c : Code} {L : mm_L} {eo : Nat} {v : Int32} {g' : mm_M} {g : mm_M} {r0 : Nat} {x1 : Int32} {u0 : Nat} {t1 : Int32} {t2 : Int32} {H : Heap} {locs : List Loc} {ls : Array Slot} (hX : mm_X L prog_9_method_25_code 3 "LoanArrowsModel" (some .int) 3 74 p l R s m meth c) (h : f_Mo_sendAll_b34 L.1 g r0 x1 u0 t1 t2 = some (eo, v, g')) (hP : mm_P L g H) (hF : ∀ q ∈ locs, mm_F L q.base) (hl : lv_has ls 3 [(0, .ref (L.2.1 20 r0)), (1, .int x1)]) (hv_r0 : mm_lv L.1 20 r0) (hv_u0 : mm_lv L.1 20 u0) : W p l e R s m args below meth c H locs 0 0 (mm_Q below L s (mm_oi eo v) g') (F0 m 34 ls [.int t2, .int t1, .ref (L.2.1 20 u0)]) := by
  have hX0 := hX
  obtain ⟨hx, hb, hml, hown, hr, hlk, hex, hRf, hRl, hRc, hRs, hJ, hK, hst, h00⟩ := hX0
  unfold f_Mo_sendAll_b34 at h
  refine lv_iconst (v := 0) hx hb d_Mo_sendAll_34 (by decide) ?_
  rcases mm_bd_some h with ⟨z1, g2, hf3, h⟩ | ⟨xe, z1, g2, hf3, h⟩
  · refine mm_goR (v := (some (.int z1))) (mm_goV (As := [.int t1, .int t2, .int 0]) (rest := []) hX (c_Mo_refused hv_u0 hf3) yw_Mo_refused wt_713 wt_715 ws_0_13 hP hF (mm_recv (h := 20) (i := u0) hX hP hv_u0 rfl rfl) rfl hl.1 (Nat.le_of_ble_eq_true rfl) (by decide) (by decide) hRc hRs d_Mo_sendAll_35) hF (fun H locs hP hF _ => ?_)
    refine lv_if_eq (tgt := 45) hx hb d_Mo_sendAll_38 rfl (fun hc => ?_) (fun hc => ?_)
    · have h := mm_pos hc h
      refine lv_aload_n hx hb d_Mo_sendAll_45 rfl (lv_at hl 0 rfl) ?_
      refine lv_iload_n hx hb d_Mo_sendAll_46 rfl (lv_at hl 1 rfl) ?_
      rcases mm_bd_some h with ⟨z4, g5, hf6, h⟩ | ⟨xe, z4, g5, hf6, h⟩
      · refine mm_goR (v := (some (.int z4))) (mm_goV (As := [.int x1]) (rest := []) hX (c_Mo_sendFirsts hv_r0 hf6) yw_Mo_sendFirsts wt_776 wt_778 ws_1_7 hP hF (mm_recv (h := 20) (i := r0) hX hP hv_r0 rfl rfl) rfl hl.1 (Nat.le_of_ble_eq_true rfl) (by decide) (by decide) hRc hRs d_Mo_sendAll_47) hF (fun H locs hP hF _ => ?_)
        exact w_Mo_sendAll_b50 hX h hP hF (lv_sub (l' := []) hl [] rfl)
      · cases h
        exact mm_goT (x := xe + 1) (mm_goV (As := [.int x1]) (rest := []) hX (c_Mo_sendFirsts hv_r0 hf6) yw_Mo_sendFirsts wt_776 wt_778 ws_1_7 hP hF (mm_recv (h := 20) (i := r0) hX hP hv_r0 rfl rfl) rfl hl.1 (Nat.le_of_ble_eq_true rfl) (by decide) (by decide) hRc hRs d_Mo_sendAll_47) hF hex hlk
    · have h := mm_neg hc h
      refine lv_iconst (v := 0) hx hb d_Mo_sendAll_41 (by decide) ?_
      refine lv_goto (tgt := 50) hx hb d_Mo_sendAll_42 rfl ?_
      exact w_Mo_sendAll_b50 hX h hP hF (lv_sub (l' := []) hl [] rfl)
  · cases h
    exact mm_goT (x := xe + 1) (mm_goV (As := [.int t1, .int t2, .int 0]) (rest := []) hX (c_Mo_refused hv_u0 hf3) yw_Mo_refused wt_713 wt_715 ws_0_13 hP hF (mm_recv (h := 20) (i := u0) hX hP hv_u0 rfl rfl) rfl hl.1 (Nat.le_of_ble_eq_true rfl) (by decide) (by decide) hRc hRs d_Mo_sendAll_35) hF hex hlk
def f_Mo_sendAll_b33 (n : Nat) (g : mm_M) (r0 : Nat) (x1 : Int32) (u0 : Nat) (t1 : Int32) : Option (Nat × Int32 × mm_M) :=
  f_Mo_sendAll_b34 n g r0 x1 u0 t1 0
set_option maxRecDepth 100000 in
set_option maxHeartbeats 4000000 in
theorem w_Mo_sendAll_b33 {p : Program} {l : Launch} {e : Env} {R : Room} {s : State} {m : MethodId} {args : Array Value} {below : List Frame} {meth : Method} {c : Code} {L : mm_L} {eo : Nat} {v : Int32} {g' : mm_M} {g : mm_M} {r0 : Nat} {x1 : Int32} {u0 : Nat} {t1 : Int32} {H : Heap} {locs : List Loc} {ls : Array Slot} (hX : mm_X L prog_9_method_25_code 3 "LoanArrowsModel" (some .int) 3 74 p l R s m meth c) (h : f_Mo_sendAll_b33 L.1 g r0 x1 u0 t1 = some (eo, v, g')) (hP : mm_P L g H) (hF : ∀ q ∈ locs, mm_F L q.base) (hl : lv_has ls 3 [(0, .ref (L.2.1 20 r0)), (1, .int x1)]) (hv_r0 : mm_lv L.1 20 r0) (hv_u0 : mm_lv L.1 20 u0) : W p l e R s m args below meth c H locs 0 0 (mm_Q below L s (mm_oi eo v) g') (F0 m 33 ls [.int t1, .ref (L.2.1 20 u0)]) := by
  have hX0 := hX
  obtain ⟨hx, hb, hml, hown, hr, hlk, hex, hRf, hRl, hRc, hRs, hJ, hK, hst, h00⟩ := hX0
  unfold f_Mo_sendAll_b33 at h
  refine lv_iconst (v := 0) hx hb d_Mo_sendAll_33 (by decide) ?_
  exact w_Mo_sendAll_b34 hX h hP hF (lv_sub (l' := [(0, .ref (L.2.1 20 r0)), (1, .int x1)]) hl [0, 1] rfl) hv_r0 hv_u0
def f_Mo_sendAll_b13 (n : Nat) (g : mm_M) (r0 : Nat) (x1 : Int32) (t0 : Int32) : Option (Nat × Int32 × mm_M) :=
  (if t0 = 0 then mm_ix x1 12 ((if (g 22 0 x1.toNatClampNeg) = 0 then f_Mo_sendAll_b33 n g r0 x1 r0 t0 else f_Mo_sendAll_b34 n g r0 x1 r0 t0 1)) else f_Mo_sendAll_b33 n g r0 x1 r0 t0)
set_option maxRecDepth 100000 in
set_option maxHeartbeats 4000000 in
theorem w_Mo_sendAll_b13 {p : Program} {l : Launch} {e : Env} {R : Room} {s : State} {m : MethodId} {args : Array Value} {below : List Frame} {meth : Method} {c : Code} {L : mm_L} {eo : Nat} {v : Int32} {g' : mm_M} {g : mm_M} {r0 : Nat} {x1 : Int32} {t0 : Int32} {H : Heap} {locs : List Loc} {ls : Array Slot} (hX : mm_X L prog_9_method_25_code 3 "LoanArrowsModel" (some .int) 3 74 p l R s m meth c) (h : f_Mo_sendAll_b13 L.1 g r0 x1 t0 = some (eo, v, g')) (hP : mm_P L g H) (hF : ∀ q ∈ locs, mm_F L q.base) (hl : lv_has ls 3 [(0, .ref (L.2.1 20 r0)), (1, .int x1)]) (hv_r0 : mm_lv L.1 20 r0) : W p l e R s m args below meth c H locs 0 0 (mm_Q below L s (mm_oi eo v) g') (F0 m 13 ls [.int t0]) := by
  have hX0 := hX
  obtain ⟨hx, hb, hml, hown, hr, hlk, hex, hRf, hRl, hRc, hRs, hJ, hK, hst, h00⟩ := hX0
  unfold f_Mo_sendAll_b13 at h
  refine lv_istore_n hx hb d_Mo_sendAll_13 rfl hl (Nat.lt_of_lt_of_le (Nat.lt_succ_self _) (Nat.le_of_ble_eq_true rfl)) rfl (fun ls hl => ?_)
  have hl : lv_has ls 3 [(2, .int t0), (0, .ref (L.2.1 20 r0)), (1, .int x1)] := hl
  refine lv_aload_n hx hb d_Mo_sendAll_14 rfl (lv_at hl 1 rfl) ?_
  refine lv_iload_n hx hb d_Mo_sendAll_15 rfl (lv_at hl 0 rfl) ?_
  refine lv_iload_n hx hb d_Mo_sendAll_16 rfl (lv_at hl 0 rfl) ?_
  refine lv_if_ne (tgt := 33) hx hb d_Mo_sendAll_17 rfl (fun hc => ?_) (fun hc => ?_)
  · have h := mm_neg hc h
    exact w_Mo_sendAll_b33 hX h hP hF (lv_sub (l' := [(0, .ref (L.2.1 20 r0)), (1, .int x1)]) hl [1, 2] rfl) hv_r0 hv_r0
  · have h := mm_pos hc h
    refine lv_aload_n hx hb d_Mo_sendAll_20 rfl (lv_at hl 1 rfl) ?_
    refine mm_get (h := 20) (i := r0) 3 hX hP hv_r0 rfl rfl uin_20 (by decide) ⟨rfl, rfl, rfl⟩ wt_615 rfl d_Mo_sendAll_21 ?_
    refine lv_iload_n hx hb d_Mo_sendAll_24 rfl (lv_at hl 2 rfl) ?_
    obtain ⟨hin, h⟩ := mm_ix_some h
    refine mm_zald (h := 22) (i := 0) hX hP mm_ls22 (fun _ => rfl) rfl hin d_Mo_sendAll_25 ?_
    refine lv_if_eq (tgt := 33) hx hb d_Mo_sendAll_26 rfl (fun hc => ?_) (fun hc => ?_)
    · have h := mm_pos hc h
      exact w_Mo_sendAll_b33 hX h hP hF (lv_sub (l' := [(0, .ref (L.2.1 20 r0)), (1, .int x1)]) hl [1, 2] rfl) hv_r0 hv_r0
    · have h := mm_neg hc h
      refine lv_iconst (v := 1) hx hb d_Mo_sendAll_29 (by decide) ?_
      refine lv_goto (tgt := 34) hx hb d_Mo_sendAll_30 rfl ?_
      exact w_Mo_sendAll_b34 hX h hP hF (lv_sub (l' := [(0, .ref (L.2.1 20 r0)), (1, .int x1)]) hl [1, 2] rfl) hv_r0 hv_r0
def f_Mo_sendAll (n : Nat) (g : mm_M) (r0 : Nat) (x1 : Int32) : Option (Nat × Int32 × mm_M) :=
  mm_bd (f_Mo_isLibrary n g r0 x1) 0 (fun z1 g2 => (if z1 = 0 then f_Mo_sendAll_b13 n g2 r0 x1 1 else f_Mo_sendAll_b13 n g2 r0 x1 0))
set_option maxRecDepth 100000 in
set_option maxHeartbeats 4000000 in
theorem w_Mo_sendAll {p : Program} {l : Launch} {e : Env} {R : Room} {s : State} {m : MethodId} {args : Array Value} {below : List Frame} {meth : Method} {c : Code} {L : mm_L} {eo : Nat} {v : Int32} {g' : mm_M} {g : mm_M} {r0 : Nat} {x1 : Int32} {H : Heap} {locs : List Loc} {ls : Array Slot} (hX : mm_X L prog_9_method_25_code 3 "LoanArrowsModel" (some .int) 3 74 p l R s m meth c) (h : f_Mo_sendAll L.1 g r0 x1 = some (eo, v, g')) (hP : mm_P L g H) (hF : ∀ q ∈ locs, mm_F L q.base) (hl : lv_has ls 3 [(0, .ref (L.2.1 20 r0)), (1, .int x1)]) (hv_r0 : mm_lv L.1 20 r0) : W p l e R s m args below meth c H locs 0 0 (mm_Q below L s (mm_oi eo v) g') (F0 m 0 ls []) := by
  have hX0 := hX
  obtain ⟨hx, hb, hml, hown, hr, hlk, hex, hRf, hRl, hRc, hRs, hJ, hK, hst, h00⟩ := hX0
  unfold f_Mo_sendAll at h
  refine lv_aload_n hx hb d_Mo_sendAll_0 rfl (lv_at hl 0 rfl) ?_
  refine lv_iload_n hx hb d_Mo_sendAll_1 rfl (lv_at hl 1 rfl) ?_
  rcases mm_bd_some h with ⟨z1, g2, hf3, h⟩ | ⟨xe, z1, g2, hf3, h⟩
  · refine mm_goR (v := (some (.int z1))) (mm_goV (As := [.int x1]) (rest := []) hX (c_Mo_isLibrary hv_r0 hf3) yw_Mo_isLibrary wt_706 wt_708 ws_0_12 hP hF (mm_recv (h := 20) (i := r0) hX hP hv_r0 rfl rfl) rfl hl.1 (Nat.le_of_ble_eq_true rfl) (by decide) (by decide) hRc hRs d_Mo_sendAll_2) hF (fun H locs hP hF _ => ?_)
    refine lv_if_ne (tgt := 12) hx hb d_Mo_sendAll_5 rfl (fun hc => ?_) (fun hc => ?_)
    · have h := mm_neg hc h
      refine lv_iconst (v := 0) hx hb d_Mo_sendAll_12 (by decide) ?_
      exact w_Mo_sendAll_b13 hX h hP hF (lv_sub (l' := [(0, .ref (L.2.1 20 r0)), (1, .int x1)]) hl [0, 1] rfl) hv_r0
    · have h := mm_pos hc h
      refine lv_iconst (v := 1) hx hb d_Mo_sendAll_8 (by decide) ?_
      refine lv_goto (tgt := 13) hx hb d_Mo_sendAll_9 rfl ?_
      exact w_Mo_sendAll_b13 hX h hP hF (lv_sub (l' := [(0, .ref (L.2.1 20 r0)), (1, .int x1)]) hl [0, 1] rfl) hv_r0
  · cases h
    exact mm_goT (x := xe + 1) (mm_goV (As := [.int x1]) (rest := []) hX (c_Mo_isLibrary hv_r0 hf3) yw_Mo_isLibrary wt_706 wt_708 ws_0_12 hP hF (mm_recv (h := 20) (i := r0) hX hP hv_r0 rfl rfl) rfl hl.1 (Nat.le_of_ble_eq_true rfl) (by decide) (by decide) hRc hRs d_Mo_sendAll_2) hF hex hlk
set_option maxRecDepth 100000 in
set_option maxHeartbeats 4000000 in
theorem c_Mo_sendAll {l : Launch} {L : mm_L} {g g' : mm_M} {eo : Nat} {v : Int32} {r0 : Nat} {x1 : Int32} (hv_r0 : mm_lv L.1 20 r0) (h : f_Mo_sendAll L.1 g r0 x1 = some (eo, v, g')) : mm_C l y_Mo_sendAll prog_9_method_25_code 3 (some .int) 3 74 L [.ref (L.2.1 20 r0), .int x1] g (mm_oi eo v) g' := by
  intro p e R s m below meth c hX hP
  refine mm_enter (Nat.le_of_ble_eq_true rfl) fun ls hl => ?_
  exact w_Mo_sendAll hX h hP (fun q hq => by cases hq) (lv_sub (l' := [(0, .ref (L.2.1 20 r0)), (1, .int x1)]) hl [0, 1] rfl) hv_r0
def f_Mo_pending (n : Nat) (g : mm_M) (r0 : Nat) : Option (Nat × Int32 × mm_M) :=
  mm_let (mm_st g 20 r0 0 0) (fun g1 => some (0, (g1 20 r0 20), g1))
set_option maxRecDepth 100000 in
set_option maxHeartbeats 4000000 in
theorem w_Mo_pending {p : Program} {l : Launch} {e : Env} {R : Room} {s : State} {m : MethodId} {args : Array Value} {below : List Frame} {meth : Method} {c : Code} {L : mm_L} {eo : Nat} {v : Int32} {g' : mm_M} {g : mm_M} {r0 : Nat} {H : Heap} {locs : List Loc} {ls : Array Slot} (hX : mm_X L prog_9_method_26_code 1 "LoanArrowsModel" (some .int) 0 0 p l R s m meth c) (h : f_Mo_pending L.1 g r0 = some (eo, v, g')) (hP : mm_P L g H) (hF : ∀ q ∈ locs, mm_F L q.base) (hl : lv_has ls 1 [(0, .ref (L.2.1 20 r0))]) (hv_r0 : mm_lv L.1 20 r0) : W p l e R s m args below meth c H locs 0 0 (mm_Q below L s (mm_oi eo v) g') (F0 m 0 ls []) := by
  have hX0 := hX
  obtain ⟨hx, hb, hml, hown, hr, hlk, hex, hRf, hRl, hRc, hRs, hJ, hK, hst, h00⟩ := hX0
  unfold f_Mo_pending at h
  refine lv_aload_n hx hb d_Mo_pending_0 rfl (lv_at hl 0 rfl) ?_
  refine lv_iconst (v := 0) hx hb d_Mo_pending_1 (by decide) ?_
  refine mm_put (h := 20) (i := r0) 0 hX hP hF hv_r0 rfl rfl rfl uin_20 ty_20 tyok_20 nmok_20 (by decide) ⟨rfl, rfl, rfl⟩ rfl wt_612 rfl rfl rfl (Nat.le_of_ble_eq_true rfl) d_Mo_pending_2 (fun H locs hP hF => ?_)
  obtain ⟨g1, e2, h⟩ := mm_let_ex h
  have hP : mm_P L g1 H := by rw [e2]; exact hP
  refine lv_aload_n hx hb d_Mo_pending_5 rfl (lv_at hl 0 rfl) ?_
  refine mm_get (h := 20) (i := r0) 20 hX hP hv_r0 rfl rfl uin_20 (by decide) ⟨rfl, rfl, rfl⟩ wt_632 rfl d_Mo_pending_6 ?_
  cases h
  exact mm_iret hx hb hr hlk hP hF d_Mo_pending_9
set_option maxRecDepth 100000 in
set_option maxHeartbeats 4000000 in
theorem c_Mo_pending {l : Launch} {L : mm_L} {g g' : mm_M} {eo : Nat} {v : Int32} {r0 : Nat} (hv_r0 : mm_lv L.1 20 r0) (h : f_Mo_pending L.1 g r0 = some (eo, v, g')) : mm_C l y_Mo_pending prog_9_method_26_code 1 (some .int) 0 0 L [.ref (L.2.1 20 r0)] g (mm_oi eo v) g' := by
  intro p e R s m below meth c hX hP
  refine mm_enter (Nat.le_of_ble_eq_true rfl) fun ls hl => ?_
  exact w_Mo_pending hX h hP (fun q hq => by cases hq) (lv_sub (l' := [(0, .ref (L.2.1 20 r0))]) hl [0] rfl) hv_r0
def f_Mo_isPacket_b17 (n : Nat) (g : mm_M) (t0 : Int32) : Option (Nat × Int32 × mm_M) :=
  mm_nz t0 (some (0, t0, g))
set_option maxRecDepth 100000 in
set_option maxHeartbeats 4000000 in
theorem w_Mo_isPacket_b17 {p : Program} {l : Launch} {e : Env} {R : Room} {s : State} {m : MethodId} {args : Array Value} {below : List Frame} {meth : Method} {c : Code} {L : mm_L} {eo : Nat} {v : Int32} {g' : mm_M} {g : mm_M} {t0 : Int32} {H : Heap} {locs : List Loc} {ls : Array Slot} (hX : mm_X L prog_9_method_27_code 2 "LoanArrowsModel" (some .boolean) 0 0 p l R s m meth c) (h : f_Mo_isPacket_b17 L.1 g t0 = some (eo, v, g')) (hP : mm_P L g H) (hF : ∀ q ∈ locs, mm_F L q.base) (hl : lv_has ls 2 []) : W p l e R s m args below meth c H locs 0 0 (mm_Q below L s (mm_oi eo v) g') (F0 m 17 ls [.int t0]) := by
  have hX0 := hX
  obtain ⟨hx, hb, hml, hown, hr, hlk, hex, hRf, hRl, hRc, hRs, hJ, hK, hst, h00⟩ := hX0
  unfold f_Mo_isPacket_b17 at h
  obtain ⟨hn, h⟩ := mm_nz_some h
  cases h
  exact mm_zret hx hb hr hn hlk hP hF d_Mo_isPacket_17
def f_Mo_isPacket_b16 (n : Nat) (g : mm_M)  : Option (Nat × Int32 × mm_M) :=
  f_Mo_isPacket_b17 n g 0
set_option maxRecDepth 100000 in
set_option maxHeartbeats 4000000 in
theorem w_Mo_isPacket_b16 {p : Program} {l : Launch} {e : Env} {R : Room} {s : State} {m : MethodId} {args : Array Value} {below : List Frame} {meth : Method} {c : Code} {L : mm_L} {eo : Nat} {v : Int32} {g' : mm_M} {g : mm_M} {H : Heap} {locs : List Loc} {ls : Array Slot} (hX : mm_X L prog_9_method_27_code 2 "LoanArrowsModel" (some .boolean) 0 0 p l R s m meth c) (h : f_Mo_isPacket_b16 L.1 g = some (eo, v, g')) (hP : mm_P L g H) (hF : ∀ q ∈ locs, mm_F L q.base) (hl : lv_has ls 2 []) : W p l e R s m args below meth c H locs 0 0 (mm_Q below L s (mm_oi eo v) g') (F0 m 16 ls []) := by
  have hX0 := hX
  obtain ⟨hx, hb, hml, hown, hr, hlk, hex, hRf, hRl, hRc, hRs, hJ, hK, hst, h00⟩ := hX0
  unfold f_Mo_isPacket_b16 at h
  refine lv_iconst (v := 0) hx hb d_Mo_isPacket_16 (by decide) ?_
  exact w_Mo_isPacket_b17 hX h hP hF (lv_sub (l' := []) hl [] rfl)
def f_Mo_isPacket (n : Nat) (g : mm_M) (r0 : Nat) (x1 : Int32) : Option (Nat × Int32 × mm_M) :=
  (if x1 < 0 then f_Mo_isPacket_b16 n g else (if (g 20 r0 20) ≤ x1 then f_Mo_isPacket_b16 n g else f_Mo_isPacket_b17 n g 1))
set_option maxRecDepth 100000 in
set_option maxHeartbeats 4000000 in
theorem w_Mo_isPacket {p : Program} {l : Launch} {e : Env} {R : Room} {s : State} {m : MethodId} {args : Array Value} {below : List Frame} {meth : Method} {c : Code} {L : mm_L} {eo : Nat} {v : Int32} {g' : mm_M} {g : mm_M} {r0 : Nat} {x1 : Int32} {H : Heap} {locs : List Loc} {ls : Array Slot} (hX : mm_X L prog_9_method_27_code 2 "LoanArrowsModel" (some .boolean) 0 0 p l R s m meth c) (h : f_Mo_isPacket L.1 g r0 x1 = some (eo, v, g')) (hP : mm_P L g H) (hF : ∀ q ∈ locs, mm_F L q.base) (hl : lv_has ls 2 [(0, .ref (L.2.1 20 r0)), (1, .int x1)]) (hv_r0 : mm_lv L.1 20 r0) : W p l e R s m args below meth c H locs 0 0 (mm_Q below L s (mm_oi eo v) g') (F0 m 0 ls []) := by
  have hX0 := hX
  obtain ⟨hx, hb, hml, hown, hr, hlk, hex, hRf, hRl, hRc, hRs, hJ, hK, hst, h00⟩ := hX0
  unfold f_Mo_isPacket at h
  refine lv_iload_n hx hb d_Mo_isPacket_0 rfl (lv_at hl 1 rfl) ?_
  refine lv_if_lt (tgt := 16) hx hb d_Mo_isPacket_1 rfl (fun hc => ?_) (fun hc => ?_)
  · have h := mm_pos hc h
    exact w_Mo_isPacket_b16 hX h hP hF (lv_sub (l' := []) hl [] rfl)
  · have h := mm_neg hc h
    refine lv_iload_n hx hb d_Mo_isPacket_4 rfl (lv_at hl 1 rfl) ?_
    refine lv_aload_n hx hb d_Mo_isPacket_5 rfl (lv_at hl 0 rfl) ?_
    refine mm_get (h := 20) (i := r0) 20 hX hP hv_r0 rfl rfl uin_20 (by decide) ⟨rfl, rfl, rfl⟩ wt_632 rfl d_Mo_isPacket_6 ?_
    refine lv_icmp_ge (tgt := 16) hx hb d_Mo_isPacket_9 rfl (fun hc => ?_) (fun hc => ?_)
    · have h := mm_pos hc h
      exact w_Mo_isPacket_b16 hX h hP hF (lv_sub (l' := []) hl [] rfl)
    · have h := mm_neg hc h
      refine lv_iconst (v := 1) hx hb d_Mo_isPacket_12 (by decide) ?_
      refine lv_goto (tgt := 17) hx hb d_Mo_isPacket_13 rfl ?_
      exact w_Mo_isPacket_b17 hX h hP hF (lv_sub (l' := []) hl [] rfl)
set_option maxRecDepth 100000 in
set_option maxHeartbeats 4000000 in
theorem c_Mo_isPacket {l : Launch} {L : mm_L} {g g' : mm_M} {eo : Nat} {v : Int32} {r0 : Nat} {x1 : Int32} (hv_r0 : mm_lv L.1 20 r0) (h : f_Mo_isPacket L.1 g r0 x1 = some (eo, v, g')) : mm_C l y_Mo_isPacket prog_9_method_27_code 2 (some .boolean) 0 0 L [.ref (L.2.1 20 r0), .int x1] g (mm_oi eo v) g' := by
  intro p e R s m below meth c hX hP
  refine mm_enter (Nat.le_of_ble_eq_true rfl) fun ls hl => ?_
  exact w_Mo_isPacket hX h hP (fun q hq => by cases hq) (lv_sub (l' := [(0, .ref (L.2.1 20 r0)), (1, .int x1)]) hl [0, 1] rfl) hv_r0
def f_Mo_packet_b23 (n : Nat) (g : mm_M) (r0 : Nat) (x1 : Int32) (x2 : Int32) (u0 : Nat) (t1 : Int32) : Option (Nat × Int32 × mm_M) :=
  mm_bd (f_Mo_refused n g u0 t1 0 0) 0 (fun z1 g2 => (if z1 = 0 then (if x2 = 0 then mm_ix x1 40 (some (0, (g2 39 0 x1.toNatClampNeg), g2)) else (if x2 = 1 then mm_ix x1 40 (some (0, (g2 40 0 x1.toNatClampNeg), g2)) else (if x2 = 2 then mm_ix x1 40 (some (0, (g2 41 0 x1.toNatClampNeg), g2)) else (if x2 = 3 then mm_ix x1 40 (some (0, (g2 42 0 x1.toNatClampNeg), g2)) else (if x2 = 4 then mm_ix x1 40 (some (0, (g2 43 0 x1.toNatClampNeg), g2)) else mm_ix x1 40 (some (0, (g2 44 0 x1.toNatClampNeg), g2))))))) else some (0, 0, g2)))
set_option maxRecDepth 100000 in
set_option maxHeartbeats 4000000 in
theorem w_Mo_packet_b23 {p : Program} {l : Launch} {e : Env} {R : Room} {s : State} {m : MethodId} {args : Array Value} {below : List Frame} {meth : Method} {c : Code} {L : mm_L} {eo : Nat} {v : Int32} {g' : mm_M} {g : mm_M} {r0 : Nat} {x1 : Int32} {x2 : Int32} {u0 : Nat} {t1 : Int32} {H : Heap} {locs : List Loc} {ls : Array Slot} (hX : mm_X L prog_9_method_28_code 3 "LoanArrowsModel" (some .int) 1 23 p l R s m meth c) (h : f_Mo_packet_b23 L.1 g r0 x1 x2 u0 t1 = some (eo, v, g')) (hP : mm_P L g H) (hF : ∀ q ∈ locs, mm_F L q.base) (hl : lv_has ls 3 [(0, .ref (L.2.1 20 r0)), (1, .int x1), (2, .int x2)]) (hv_r0 : mm_lv L.1 20 r0) (hv_u0 : mm_lv L.1 20 u0) : W p l e R s m args below meth c H locs 0 0 (mm_Q below L s (mm_oi eo v) g') (F0 m 23 ls [.int t1, .ref (L.2.1 20 u0)]) := by
  have hX0 := hX
  obtain ⟨hx, hb, hml, hown, hr, hlk, hex, hRf, hRl, hRc, hRs, hJ, hK, hst, h00⟩ := hX0
  unfold f_Mo_packet_b23 at h
  refine lv_iconst (v := 0) hx hb d_Mo_packet_23 (by decide) ?_
  refine lv_iconst (v := 0) hx hb d_Mo_packet_24 (by decide) ?_
  rcases mm_bd_some h with ⟨z1, g2, hf3, h⟩ | ⟨xe, z1, g2, hf3, h⟩
  · refine mm_goR (v := (some (.int z1))) (mm_goV (As := [.int t1, .int 0, .int 0]) (rest := []) hX (c_Mo_refused hv_u0 hf3) yw_Mo_refused wt_713 wt_715 ws_0_13 hP hF (mm_recv (h := 20) (i := u0) hX hP hv_u0 rfl rfl) rfl hl.1 (Nat.le_of_ble_eq_true rfl) (by decide) (by decide) hRc hRs d_Mo_packet_25) hF (fun H locs hP hF _ => ?_)
    refine lv_if_eq (tgt := 33) hx hb d_Mo_packet_28 rfl (fun hc => ?_) (fun hc => ?_)
    · have h := mm_pos hc h
      refine lv_iload_n hx hb d_Mo_packet_33 rfl (lv_at hl 2 rfl) ?_
      by_cases hc0 : x2 = 0
      · have h := mm_pos hc0 h
        refine lv_tableIn (off := 34) (tgt := 68) hx hb d_Mo_packet_34 (by rw [hc0]; decide) (by rw [hc0]; decide) (by rw [hc0]; rfl) rfl ?_
        refine lv_aload_n hx hb d_Mo_packet_68 rfl (lv_at hl 0 rfl) ?_
        refine mm_get (h := 20) (i := r0) 21 hX hP hv_r0 rfl rfl uin_20 (by decide) ⟨rfl, rfl, rfl⟩ wt_633 rfl d_Mo_packet_69 ?_
        refine lv_iload_n hx hb d_Mo_packet_72 rfl (lv_at hl 1 rfl) ?_
        obtain ⟨hin, h⟩ := mm_ix_some h
        refine mm_iald (h := 39) (i := 0) hX hP mm_ls39 (fun _ => rfl) rfl hin d_Mo_packet_73 ?_
        cases h
        exact mm_iret hx hb hr hlk hP hF d_Mo_packet_74
      have h := mm_neg hc0 h
      by_cases hc1 : x2 = 1
      · have h := mm_pos hc1 h
        refine lv_tableIn (off := 41) (tgt := 75) hx hb d_Mo_packet_34 (by rw [hc1]; decide) (by rw [hc1]; decide) (by rw [hc1]; rfl) rfl ?_
        refine lv_aload_n hx hb d_Mo_packet_75 rfl (lv_at hl 0 rfl) ?_
        refine mm_get (h := 20) (i := r0) 22 hX hP hv_r0 rfl rfl uin_20 (by decide) ⟨rfl, rfl, rfl⟩ wt_634 rfl d_Mo_packet_76 ?_
        refine lv_iload_n hx hb d_Mo_packet_79 rfl (lv_at hl 1 rfl) ?_
        obtain ⟨hin, h⟩ := mm_ix_some h
        refine mm_iald (h := 40) (i := 0) hX hP mm_ls40 (fun _ => rfl) rfl hin d_Mo_packet_80 ?_
        cases h
        exact mm_iret hx hb hr hlk hP hF d_Mo_packet_81
      have h := mm_neg hc1 h
      by_cases hc2 : x2 = 2
      · have h := mm_pos hc2 h
        refine lv_tableIn (off := 48) (tgt := 82) hx hb d_Mo_packet_34 (by rw [hc2]; decide) (by rw [hc2]; decide) (by rw [hc2]; rfl) rfl ?_
        refine lv_aload_n hx hb d_Mo_packet_82 rfl (lv_at hl 0 rfl) ?_
        refine mm_get (h := 20) (i := r0) 23 hX hP hv_r0 rfl rfl uin_20 (by decide) ⟨rfl, rfl, rfl⟩ wt_635 rfl d_Mo_packet_83 ?_
        refine lv_iload_n hx hb d_Mo_packet_86 rfl (lv_at hl 1 rfl) ?_
        obtain ⟨hin, h⟩ := mm_ix_some h
        refine mm_iald (h := 41) (i := 0) hX hP mm_ls41 (fun _ => rfl) rfl hin d_Mo_packet_87 ?_
        cases h
        exact mm_iret hx hb hr hlk hP hF d_Mo_packet_88
      have h := mm_neg hc2 h
      by_cases hc3 : x2 = 3
      · have h := mm_pos hc3 h
        refine lv_tableIn (off := 55) (tgt := 89) hx hb d_Mo_packet_34 (by rw [hc3]; decide) (by rw [hc3]; decide) (by rw [hc3]; rfl) rfl ?_
        refine lv_aload_n hx hb d_Mo_packet_89 rfl (lv_at hl 0 rfl) ?_
        refine mm_get (h := 20) (i := r0) 24 hX hP hv_r0 rfl rfl uin_20 (by decide) ⟨rfl, rfl, rfl⟩ wt_636 rfl d_Mo_packet_90 ?_
        refine lv_iload_n hx hb d_Mo_packet_93 rfl (lv_at hl 1 rfl) ?_
        obtain ⟨hin, h⟩ := mm_ix_some h
        refine mm_iald (h := 42) (i := 0) hX hP mm_ls42 (fun _ => rfl) rfl hin d_Mo_packet_94 ?_
        cases h
        exact mm_iret hx hb hr hlk hP hF d_Mo_packet_95
      have h := mm_neg hc3 h
      by_cases hc4 : x2 = 4
      · have h := mm_pos hc4 h
        refine lv_tableIn (off := 62) (tgt := 96) hx hb d_Mo_packet_34 (by rw [hc4]; decide) (by rw [hc4]; decide) (by rw [hc4]; rfl) rfl ?_
        refine lv_aload_n hx hb d_Mo_packet_96 rfl (lv_at hl 0 rfl) ?_
        refine mm_get (h := 20) (i := r0) 25 hX hP hv_r0 rfl rfl uin_20 (by decide) ⟨rfl, rfl, rfl⟩ wt_637 rfl d_Mo_packet_97 ?_
        refine lv_iload_n hx hb d_Mo_packet_100 rfl (lv_at hl 1 rfl) ?_
        obtain ⟨hin, h⟩ := mm_ix_some h
        refine mm_iald (h := 43) (i := 0) hX hP mm_ls43 (fun _ => rfl) rfl hin d_Mo_packet_101 ?_
        cases h
        exact mm_iret hx hb hr hlk hP hF d_Mo_packet_102
      have h := mm_neg hc4 h
      refine lv_tableOut (tgt := 103) hx hb d_Mo_packet_34 (mm_out0_4 hc0 hc1 hc2 hc3 hc4) rfl ?_
      refine lv_aload_n hx hb d_Mo_packet_103 rfl (lv_at hl 0 rfl) ?_
      refine mm_get (h := 20) (i := r0) 26 hX hP hv_r0 rfl rfl uin_20 (by decide) ⟨rfl, rfl, rfl⟩ wt_638 rfl d_Mo_packet_104 ?_
      refine lv_iload_n hx hb d_Mo_packet_107 rfl (lv_at hl 1 rfl) ?_
      obtain ⟨hin, h⟩ := mm_ix_some h
      refine mm_iald (h := 44) (i := 0) hX hP mm_ls44 (fun _ => rfl) rfl hin d_Mo_packet_108 ?_
      cases h
      exact mm_iret hx hb hr hlk hP hF d_Mo_packet_109
    · have h := mm_neg hc h
      refine lv_iconst (v := 0) hx hb d_Mo_packet_31 (by decide) ?_
      cases h
      exact mm_iret hx hb hr hlk hP hF d_Mo_packet_32
  · cases h
    exact mm_goT (x := xe + 1) (mm_goV (As := [.int t1, .int 0, .int 0]) (rest := []) hX (c_Mo_refused hv_u0 hf3) yw_Mo_refused wt_713 wt_715 ws_0_13 hP hF (mm_recv (h := 20) (i := u0) hX hP hv_u0 rfl rfl) rfl hl.1 (Nat.le_of_ble_eq_true rfl) (by decide) (by decide) hRc hRs d_Mo_packet_25) hF hex hlk
def f_Mo_packet_b18 (n : Nat) (g : mm_M) (r0 : Nat) (x1 : Int32) (x2 : Int32) (u0 : Nat) : Option (Nat × Int32 × mm_M) :=
  f_Mo_packet_b23 n g r0 x1 x2 u0 1
set_option maxRecDepth 100000 in
set_option maxHeartbeats 4000000 in
theorem w_Mo_packet_b18 {p : Program} {l : Launch} {e : Env} {R : Room} {s : State} {m : MethodId} {args : Array Value} {below : List Frame} {meth : Method} {c : Code} {L : mm_L} {eo : Nat} {v : Int32} {g' : mm_M} {g : mm_M} {r0 : Nat} {x1 : Int32} {x2 : Int32} {u0 : Nat} {H : Heap} {locs : List Loc} {ls : Array Slot} (hX : mm_X L prog_9_method_28_code 3 "LoanArrowsModel" (some .int) 1 23 p l R s m meth c) (h : f_Mo_packet_b18 L.1 g r0 x1 x2 u0 = some (eo, v, g')) (hP : mm_P L g H) (hF : ∀ q ∈ locs, mm_F L q.base) (hl : lv_has ls 3 [(0, .ref (L.2.1 20 r0)), (1, .int x1), (2, .int x2)]) (hv_r0 : mm_lv L.1 20 r0) (hv_u0 : mm_lv L.1 20 u0) : W p l e R s m args below meth c H locs 0 0 (mm_Q below L s (mm_oi eo v) g') (F0 m 18 ls [.ref (L.2.1 20 u0)]) := by
  have hX0 := hX
  obtain ⟨hx, hb, hml, hown, hr, hlk, hex, hRf, hRl, hRc, hRs, hJ, hK, hst, h00⟩ := hX0
  unfold f_Mo_packet_b18 at h
  refine lv_iconst (v := 1) hx hb d_Mo_packet_18 (by decide) ?_
  refine lv_goto (tgt := 23) hx hb d_Mo_packet_19 rfl ?_
  exact w_Mo_packet_b23 hX h hP hF (lv_sub (l' := [(0, .ref (L.2.1 20 r0)), (1, .int x1), (2, .int x2)]) hl [0, 1, 2] rfl) hv_r0 hv_u0
def f_Mo_packet (n : Nat) (g : mm_M) (r0 : Nat) (x1 : Int32) (x2 : Int32) : Option (Nat × Int32 × mm_M) :=
  mm_bd (f_Mo_isPacket n g r0 x1) 0 (fun z1 g2 => (if z1 = 0 then f_Mo_packet_b18 n g2 r0 x1 x2 r0 else (if x2 < 0 then f_Mo_packet_b18 n g2 r0 x1 x2 r0 else (if x2 ≤ 5 then f_Mo_packet_b23 n g2 r0 x1 x2 r0 0 else f_Mo_packet_b18 n g2 r0 x1 x2 r0))))
set_option maxRecDepth 100000 in
set_option maxHeartbeats 4000000 in
theorem w_Mo_packet {p : Program} {l : Launch} {e : Env} {R : Room} {s : State} {m : MethodId} {args : Array Value} {below : List Frame} {meth : Method} {c : Code} {L : mm_L} {eo : Nat} {v : Int32} {g' : mm_M} {g : mm_M} {r0 : Nat} {x1 : Int32} {x2 : Int32} {H : Heap} {locs : List Loc} {ls : Array Slot} (hX : mm_X L prog_9_method_28_code 3 "LoanArrowsModel" (some .int) 1 23 p l R s m meth c) (h : f_Mo_packet L.1 g r0 x1 x2 = some (eo, v, g')) (hP : mm_P L g H) (hF : ∀ q ∈ locs, mm_F L q.base) (hl : lv_has ls 3 [(0, .ref (L.2.1 20 r0)), (1, .int x1), (2, .int x2)]) (hv_r0 : mm_lv L.1 20 r0) : W p l e R s m args below meth c H locs 0 0 (mm_Q below L s (mm_oi eo v) g') (F0 m 0 ls []) := by
  have hX0 := hX
  obtain ⟨hx, hb, hml, hown, hr, hlk, hex, hRf, hRl, hRc, hRs, hJ, hK, hst, h00⟩ := hX0
  unfold f_Mo_packet at h
  refine lv_aload_n hx hb d_Mo_packet_0 rfl (lv_at hl 0 rfl) ?_
  refine lv_aload_n hx hb d_Mo_packet_1 rfl (lv_at hl 0 rfl) ?_
  refine lv_iload_n hx hb d_Mo_packet_2 rfl (lv_at hl 1 rfl) ?_
  rcases mm_bd_some h with ⟨z1, g2, hf3, h⟩ | ⟨xe, z1, g2, hf3, h⟩
  · refine mm_goR (v := (some (.int z1))) (mm_goV (As := [.int x1]) (rest := [.ref (L.2.1 20 r0)]) hX (c_Mo_isPacket hv_r0 hf3) yw_Mo_isPacket wt_788 wt_790 ws_1_8 hP hF (mm_recv (h := 20) (i := r0) hX hP hv_r0 rfl rfl) rfl hl.1 (Nat.le_of_ble_eq_true rfl) (by decide) (by decide) hRc hRs d_Mo_packet_3) hF (fun H locs hP hF _ => ?_)
    refine lv_if_eq (tgt := 18) hx hb d_Mo_packet_6 rfl (fun hc => ?_) (fun hc => ?_)
    · have h := mm_pos hc h
      exact w_Mo_packet_b18 hX h hP hF (lv_sub (l' := [(0, .ref (L.2.1 20 r0)), (1, .int x1), (2, .int x2)]) hl [0, 1, 2] rfl) hv_r0 hv_r0
    · have h := mm_neg hc h
      refine lv_iload_n hx hb d_Mo_packet_9 rfl (lv_at hl 2 rfl) ?_
      refine lv_if_lt (tgt := 18) hx hb d_Mo_packet_10 rfl (fun hc => ?_) (fun hc => ?_)
      · have h := mm_pos hc h
        exact w_Mo_packet_b18 hX h hP hF (lv_sub (l' := [(0, .ref (L.2.1 20 r0)), (1, .int x1), (2, .int x2)]) hl [0, 1, 2] rfl) hv_r0 hv_r0
      · have h := mm_neg hc h
        refine lv_iload_n hx hb d_Mo_packet_13 rfl (lv_at hl 2 rfl) ?_
        refine lv_iconst (v := 5) hx hb d_Mo_packet_14 (by decide) ?_
        refine lv_icmp_le (tgt := 22) hx hb d_Mo_packet_15 rfl (fun hc => ?_) (fun hc => ?_)
        · have h := mm_pos hc h
          refine lv_iconst (v := 0) hx hb d_Mo_packet_22 (by decide) ?_
          exact w_Mo_packet_b23 hX h hP hF (lv_sub (l' := [(0, .ref (L.2.1 20 r0)), (1, .int x1), (2, .int x2)]) hl [0, 1, 2] rfl) hv_r0 hv_r0
        · have h := mm_neg hc h
          exact w_Mo_packet_b18 hX h hP hF (lv_sub (l' := [(0, .ref (L.2.1 20 r0)), (1, .int x1), (2, .int x2)]) hl [0, 1, 2] rfl) hv_r0 hv_r0
  · cases h
    exact mm_goT (x := xe + 1) (mm_goV (As := [.int x1]) (rest := [.ref (L.2.1 20 r0)]) hX (c_Mo_isPacket hv_r0 hf3) yw_Mo_isPacket wt_788 wt_790 ws_1_8 hP hF (mm_recv (h := 20) (i := r0) hX hP hv_r0 rfl rfl) rfl hl.1 (Nat.le_of_ble_eq_true rfl) (by decide) (by decide) hRc hRs d_Mo_packet_3) hF hex hlk
set_option maxRecDepth 100000 in
set_option maxHeartbeats 4000000 in
theorem c_Mo_packet {l : Launch} {L : mm_L} {g g' : mm_M} {eo : Nat} {v : Int32} {r0 : Nat} {x1 : Int32} {x2 : Int32} (hv_r0 : mm_lv L.1 20 r0) (h : f_Mo_packet L.1 g r0 x1 x2 = some (eo, v, g')) : mm_C l y_Mo_packet prog_9_method_28_code 3 (some .int) 1 23 L [.ref (L.2.1 20 r0), .int x1, .int x2] g (mm_oi eo v) g' := by
  intro p e R s m below meth c hX hP
  refine mm_enter (Nat.le_of_ble_eq_true rfl) fun ls hl => ?_
  exact w_Mo_packet hX h hP (fun q hq => by cases hq) (lv_sub (l' := [(0, .ref (L.2.1 20 r0)), (1, .int x1), (2, .int x2)]) hl [0, 1, 2] rfl) hv_r0
def f_Mo_deliver_b130 (n : Nat) (g : mm_M)  : Option (Nat × Int32 × mm_M) :=
  some (0, 4, g)
set_option maxRecDepth 100000 in
set_option maxHeartbeats 4000000 in
theorem w_Mo_deliver_b130 {p : Program} {l : Launch} {e : Env} {R : Room} {s : State} {m : MethodId} {args : Array Value} {below : List Frame} {meth : Method} {c : Code} {L : mm_L} {eo : Nat} {v : Int32} {g' : mm_M} {g : mm_M} {H : Heap} {locs : List Loc} {ls : Array Slot} (hX : mm_X L prog_9_method_29_code 10 "LoanArrowsModel" (some .int) 4 102 p l R s m meth c) (h : f_Mo_deliver_b130 L.1 g = some (eo, v, g')) (hP : mm_P L g H) (hF : ∀ q ∈ locs, mm_F L q.base) (hl : lv_has ls 10 []) : W p l e R s m args below meth c H locs 0 0 (mm_Q below L s (mm_oi eo v) g') (F0 m 130 ls []) := by
  have hX0 := hX
  obtain ⟨hx, hb, hml, hown, hr, hlk, hex, hRf, hRl, hRc, hRs, hJ, hK, hst, h00⟩ := hX0
  unfold f_Mo_deliver_b130 at h
  refine lv_iconst (v := 4) hx hb d_Mo_deliver_130 (by decide) ?_
  cases h
  exact mm_iret hx hb hr hlk hP hF d_Mo_deliver_131
def f_Mo_deliver_b167 (n : Nat) (g : mm_M)  : Option (Nat × Int32 × mm_M) :=
  some (0, 3, g)
set_option maxRecDepth 100000 in
set_option maxHeartbeats 4000000 in
theorem w_Mo_deliver_b167 {p : Program} {l : Launch} {e : Env} {R : Room} {s : State} {m : MethodId} {args : Array Value} {below : List Frame} {meth : Method} {c : Code} {L : mm_L} {eo : Nat} {v : Int32} {g' : mm_M} {g : mm_M} {H : Heap} {locs : List Loc} {ls : Array Slot} (hX : mm_X L prog_9_method_29_code 10 "LoanArrowsModel" (some .int) 4 102 p l R s m meth c) (h : f_Mo_deliver_b167 L.1 g = some (eo, v, g')) (hP : mm_P L g H) (hF : ∀ q ∈ locs, mm_F L q.base) (hl : lv_has ls 10 []) : W p l e R s m args below meth c H locs 0 0 (mm_Q below L s (mm_oi eo v) g') (F0 m 167 ls []) := by
  have hX0 := hX
  obtain ⟨hx, hb, hml, hown, hr, hlk, hex, hRf, hRl, hRc, hRs, hJ, hK, hst, h00⟩ := hX0
  unfold f_Mo_deliver_b167 at h
  refine lv_iconst (v := 3) hx hb d_Mo_deliver_167 (by decide) ?_
  cases h
  exact mm_iret hx hb hr hlk hP hF d_Mo_deliver_168
def f_Mo_deliver_b247 (n : Nat) (g : mm_M) (t0 : Int32) : Option (Nat × Int32 × mm_M) :=
  some (0, t0, g)
set_option maxRecDepth 100000 in
set_option maxHeartbeats 4000000 in
theorem w_Mo_deliver_b247 {p : Program} {l : Launch} {e : Env} {R : Room} {s : State} {m : MethodId} {args : Array Value} {below : List Frame} {meth : Method} {c : Code} {L : mm_L} {eo : Nat} {v : Int32} {g' : mm_M} {g : mm_M} {t0 : Int32} {H : Heap} {locs : List Loc} {ls : Array Slot} (hX : mm_X L prog_9_method_29_code 10 "LoanArrowsModel" (some .int) 4 102 p l R s m meth c) (h : f_Mo_deliver_b247 L.1 g t0 = some (eo, v, g')) (hP : mm_P L g H) (hF : ∀ q ∈ locs, mm_F L q.base) (hl : lv_has ls 10 []) : W p l e R s m args below meth c H locs 0 0 (mm_Q below L s (mm_oi eo v) g') (F0 m 247 ls [.int t0]) := by
  have hX0 := hX
  obtain ⟨hx, hb, hml, hown, hr, hlk, hex, hRf, hRl, hRc, hRs, hJ, hK, hst, h00⟩ := hX0
  unfold f_Mo_deliver_b247 at h
  cases h
  exact mm_iret hx hb hr hlk hP hF d_Mo_deliver_247
def f_Mo_deliver_b224 (n : Nat) (g : mm_M) (r0 : Nat) (x3 : Int32) (x4 : Int32) (x5 : Int32) (x9 : Int32) : Option (Nat × Int32 × mm_M) :=
  mm_bd (f_Mo_post n g r0 1 x4 x3 x5 (-1) (-1)) 0 (fun z1 g2 => (if x9 = 0 then f_Mo_deliver_b247 n g2 2 else f_Mo_deliver_b247 n g2 1))
set_option maxRecDepth 100000 in
set_option maxHeartbeats 4000000 in
theorem w_Mo_deliver_b224 {p : Program} {l : Launch} {e : Env} {R : Room} {s : State} {m : MethodId} {args : Array Value} {below : List Frame} {meth : Method} {c : Code} {L : mm_L} {eo : Nat} {v : Int32} {g' : mm_M} {g : mm_M} {r0 : Nat} {x3 : Int32} {x4 : Int32} {x5 : Int32} {x9 : Int32} {H : Heap} {locs : List Loc} {ls : Array Slot} (hX : mm_X L prog_9_method_29_code 10 "LoanArrowsModel" (some .int) 4 102 p l R s m meth c) (h : f_Mo_deliver_b224 L.1 g r0 x3 x4 x5 x9 = some (eo, v, g')) (hP : mm_P L g H) (hF : ∀ q ∈ locs, mm_F L q.base) (hl : lv_has ls 10 [(0, .ref (L.2.1 20 r0)), (3, .int x3), (4, .int x4), (5, .int x5), (9, .int x9)]) (hv_r0 : mm_lv L.1 20 r0) : W p l e R s m args below meth c H locs 0 0 (mm_Q below L s (mm_oi eo v) g') (F0 m 224 ls []) := by
  have hX0 := hX
  obtain ⟨hx, hb, hml, hown, hr, hlk, hex, hRf, hRl, hRc, hRs, hJ, hK, hst, h00⟩ := hX0
  unfold f_Mo_deliver_b224 at h
  refine lv_aload_n hx hb d_Mo_deliver_224 rfl (lv_at hl 0 rfl) ?_
  refine lv_iconst (v := 1) hx hb d_Mo_deliver_225 (by decide) ?_
  refine lv_iload hx hb d_Mo_deliver_226 (lv_at hl 2 rfl) ?_
  refine lv_iload_n hx hb d_Mo_deliver_228 rfl (lv_at hl 1 rfl) ?_
  refine lv_iload hx hb d_Mo_deliver_229 (lv_at hl 3 rfl) ?_
  refine lv_iconst (v := -1) hx hb d_Mo_deliver_231 (by decide) ?_
  refine lv_iconst (v := -1) hx hb d_Mo_deliver_232 (by decide) ?_
  rcases mm_bd_some h with ⟨z1, g2, hf3, h⟩ | ⟨xe, z1, g2, hf3, h⟩
  · refine mm_goR (v := (some (.int z1))) (mm_goV (As := [.int 1, .int x4, .int x3, .int x5, .int (-1), .int (-1)]) (rest := []) hX (c_Mo_post hv_r0 hf3) yw_Mo_post wt_752 wt_754 ws_1_5 hP hF (mm_recv (h := 20) (i := r0) hX hP hv_r0 rfl rfl) rfl hl.1 (Nat.le_of_ble_eq_true rfl) (by decide) (by decide) hRc hRs d_Mo_deliver_233) hF (fun H locs hP hF _ => ?_)
    refine lv_pop hx hb d_Mo_deliver_236 rfl ?_
    refine lv_iload hx hb d_Mo_deliver_237 (lv_at hl 4 rfl) ?_
    refine lv_if_eq (tgt := 246) hx hb d_Mo_deliver_239 rfl (fun hc => ?_) (fun hc => ?_)
    · have h := mm_pos hc h
      refine lv_iconst (v := 2) hx hb d_Mo_deliver_246 (by decide) ?_
      exact w_Mo_deliver_b247 hX h hP hF (lv_sub (l' := []) hl [] rfl)
    · have h := mm_neg hc h
      refine lv_iconst (v := 1) hx hb d_Mo_deliver_242 (by decide) ?_
      refine lv_goto (tgt := 247) hx hb d_Mo_deliver_243 rfl ?_
      exact w_Mo_deliver_b247 hX h hP hF (lv_sub (l' := []) hl [] rfl)
  · cases h
    exact mm_goT (x := xe + 1) (mm_goV (As := [.int 1, .int x4, .int x3, .int x5, .int (-1), .int (-1)]) (rest := []) hX (c_Mo_post hv_r0 hf3) yw_Mo_post wt_752 wt_754 ws_1_5 hP hF (mm_recv (h := 20) (i := r0) hX hP hv_r0 rfl rfl) rfl hl.1 (Nat.le_of_ble_eq_true rfl) (by decide) (by decide) hRc hRs d_Mo_deliver_233) hF hex hlk
def f_Mo_deliver_b195 (n : Nat) (g : mm_M) (r0 : Nat) (x3 : Int32) (x4 : Int32) (x5 : Int32) (x6 : Int32) (x7 : Int32) (x8 : Int32) (t0 : Int32) : Option (Nat × Int32 × mm_M) :=
  (if t0 = 0 then f_Mo_deliver_b224 n g r0 x3 x4 x5 t0 else mm_ix x8 24 (mm_ix x8 24 (mm_let (mm_st g 36 0 x8.toNatClampNeg ((g 36 0 x8.toNatClampNeg) + 1)) (fun g1 => mm_bd (f_Mo_takeFind n g1 r0 x4 x3 x6 x7) 0 (fun z3 g4 => f_Mo_deliver_b224 n g4 r0 x3 x4 x5 t0)))))
set_option maxRecDepth 100000 in
set_option maxHeartbeats 4000000 in
theorem w_Mo_deliver_b195 {p : Program} {l : Launch} {e : Env} {R : Room} {s : State} {m : MethodId} {args : Array Value} {below : List Frame} {meth : Method} {c : Code} {L : mm_L} {eo : Nat} {v : Int32} {g' : mm_M} {g : mm_M} {r0 : Nat} {x3 : Int32} {x4 : Int32} {x5 : Int32} {x6 : Int32} {x7 : Int32} {x8 : Int32} {t0 : Int32} {H : Heap} {locs : List Loc} {ls : Array Slot} (hX : mm_X L prog_9_method_29_code 10 "LoanArrowsModel" (some .int) 4 102 p l R s m meth c) (h : f_Mo_deliver_b195 L.1 g r0 x3 x4 x5 x6 x7 x8 t0 = some (eo, v, g')) (hP : mm_P L g H) (hF : ∀ q ∈ locs, mm_F L q.base) (hl : lv_has ls 10 [(0, .ref (L.2.1 20 r0)), (3, .int x3), (4, .int x4), (5, .int x5), (6, .int x6), (7, .int x7), (8, .int x8)]) (hv_r0 : mm_lv L.1 20 r0) : W p l e R s m args below meth c H locs 0 0 (mm_Q below L s (mm_oi eo v) g') (F0 m 195 ls [.int t0]) := by
  have hX0 := hX
  obtain ⟨hx, hb, hml, hown, hr, hlk, hex, hRf, hRl, hRc, hRs, hJ, hK, hst, h00⟩ := hX0
  unfold f_Mo_deliver_b195 at h
  refine lv_istore hx hb d_Mo_deliver_195 hl (Nat.lt_of_lt_of_le (Nat.lt_succ_self _) (Nat.le_of_ble_eq_true rfl)) rfl (fun ls hl => ?_)
  have hl : lv_has ls 10 [(9, .int t0), (0, .ref (L.2.1 20 r0)), (3, .int x3), (4, .int x4), (5, .int x5), (6, .int x6), (7, .int x7), (8, .int x8)] := hl
  refine lv_iload hx hb d_Mo_deliver_197 (lv_at hl 0 rfl) ?_
  refine lv_if_eq (tgt := 224) hx hb d_Mo_deliver_199 rfl (fun hc => ?_) (fun hc => ?_)
  · have h := mm_pos hc h
    exact w_Mo_deliver_b224 hX h hP hF (lv_sub (l' := [(0, .ref (L.2.1 20 r0)), (3, .int x3), (4, .int x4), (5, .int x5), (9, .int t0)]) hl [1, 2, 3, 4, 0] rfl) hv_r0
  · have h := mm_neg hc h
    refine lv_aload_n hx hb d_Mo_deliver_202 rfl (lv_at hl 1 rfl) ?_
    refine mm_get (h := 20) (i := r0) 17 hX hP hv_r0 rfl rfl uin_20 (by decide) ⟨rfl, rfl, rfl⟩ wt_629 rfl d_Mo_deliver_203 ?_
    refine lv_iload hx hb d_Mo_deliver_206 (lv_at hl 7 rfl) ?_
    refine lv_dup2_11 hx hb d_Mo_deliver_208 rfl rfl ?_
    obtain ⟨hin, h⟩ := mm_ix_some h
    refine mm_iald (h := 36) (i := 0) hX hP mm_ls36 (fun _ => rfl) rfl hin d_Mo_deliver_209 ?_
    refine lv_iconst (v := 1) hx hb d_Mo_deliver_210 (by decide) ?_
    refine lv_iadd hx hb d_Mo_deliver_211 ?_
    obtain ⟨hin, h⟩ := mm_ix_some h
    refine mm_iast (h := 36) (i := 0) hX hP hF mm_ls36 (fun _ => rfl) rfl hin d_Mo_deliver_212 (fun H locs hP hF => ?_)
    obtain ⟨g1, e2, h⟩ := mm_let_ex h
    have hP : mm_P L g1 H := by rw [e2]; exact hP
    refine lv_aload_n hx hb d_Mo_deliver_213 rfl (lv_at hl 1 rfl) ?_
    refine lv_iload hx hb d_Mo_deliver_214 (lv_at hl 3 rfl) ?_
    refine lv_iload_n hx hb d_Mo_deliver_216 rfl (lv_at hl 2 rfl) ?_
    refine lv_iload hx hb d_Mo_deliver_217 (lv_at hl 5 rfl) ?_
    refine lv_iload hx hb d_Mo_deliver_219 (lv_at hl 6 rfl) ?_
    rcases mm_bd_some h with ⟨z3, g4, hf5, h⟩ | ⟨xe, z3, g4, hf5, h⟩
    · refine mm_goR (v := none) (mm_goV (As := [.int x4, .int x3, .int x6, .int x7]) (rest := []) hX (c_Mo_takeFind hv_r0 hf5) yw_Mo_takeFind wt_800 wt_802 ws_1_10 hP hF (mm_recv (h := 20) (i := r0) hX hP hv_r0 rfl rfl) rfl hl.1 (Nat.le_of_ble_eq_true rfl) (by decide) (by decide) hRc hRs d_Mo_deliver_221) hF (fun H locs hP hF _ => ?_)
      exact w_Mo_deliver_b224 hX h hP hF (lv_sub (l' := [(0, .ref (L.2.1 20 r0)), (3, .int x3), (4, .int x4), (5, .int x5), (9, .int t0)]) hl [1, 2, 3, 4, 0] rfl) hv_r0
    · cases h
      exact mm_goT (x := xe + 1) (mm_goV (As := [.int x4, .int x3, .int x6, .int x7]) (rest := []) hX (c_Mo_takeFind hv_r0 hf5) yw_Mo_takeFind wt_800 wt_802 ws_1_10 hP hF (mm_recv (h := 20) (i := r0) hX hP hv_r0 rfl rfl) rfl hl.1 (Nat.le_of_ble_eq_true rfl) (by decide) (by decide) hRc hRs d_Mo_deliver_221) hF hex hlk
def f_Mo_deliver_b14 (n : Nat) (g : mm_M) (r0 : Nat) (x1 : Int32) (u0 : Nat) (t1 : Int32) : Option (Nat × Int32 × mm_M) :=
  mm_bd (f_Mo_refused n g u0 t1 0 0) 0 (fun z1 g2 => (if z1 = 0 then mm_ix x1 40 (mm_ix x1 40 (mm_ix x1 40 (mm_ix x1 40 (mm_ix x1 40 (mm_ix x1 40 (mm_bd (f_Mo_takeOut n g2 r0 x1) 0 (fun z4 g5 => mm_ix (g2 41 0 x1.toNatClampNeg) 12 ((if (g5 22 0 (g2 41 0 x1.toNatClampNeg).toNatClampNeg) = 0 then (if (g2 39 0 x1.toNatClampNeg) = 1 then mm_bd (f_Mo_direction n g5 r0 (g2 41 0 x1.toNatClampNeg) (g2 40 0 x1.toNatClampNeg)) 0 (fun z10 g11 => mm_ix z10 24 (mm_ix z10 24 ((if (g11 35 0 z10.toNatClampNeg) = (g11 34 0 z10.toNatClampNeg) then f_Mo_deliver_b130 n g11 else mm_ix z10 24 ((if (g11 34 0 z10.toNatClampNeg) = (g2 42 0 x1.toNatClampNeg) then mm_ix z10 24 (mm_ix z10 24 (mm_let (mm_st g11 34 0 z10.toNatClampNeg ((g11 34 0 z10.toNatClampNeg) + 1)) (fun g13 => mm_ix z10 24 (mm_ix z10 24 ((if (g13 35 0 z10.toNatClampNeg) ≤ (g13 34 0 z10.toNatClampNeg) then f_Mo_deliver_b167 n g13 else mm_bd (f_Mo_postFirst n g13 r0 (g2 41 0 x1.toNatClampNeg) (g2 40 0 x1.toNatClampNeg)) 0 (fun z15 g16 => f_Mo_deliver_b167 n g16))))))) else f_Mo_deliver_b130 n g11)))))) else mm_bd (f_Mo_direction n g5 r0 (g2 40 0 x1.toNatClampNeg) (g2 41 0 x1.toNatClampNeg)) 0 (fun z7 g8 => mm_ix z7 24 ((if (g2 42 0 x1.toNatClampNeg) = (g8 36 0 z7.toNatClampNeg) then f_Mo_deliver_b195 n g8 r0 (g2 40 0 x1.toNatClampNeg) (g2 41 0 x1.toNatClampNeg) (g2 42 0 x1.toNatClampNeg) (g2 43 0 x1.toNatClampNeg) (g2 44 0 x1.toNatClampNeg) z7 1 else f_Mo_deliver_b195 n g8 r0 (g2 40 0 x1.toNatClampNeg) (g2 41 0 x1.toNatClampNeg) (g2 42 0 x1.toNatClampNeg) (g2 43 0 x1.toNatClampNeg) (g2 44 0 x1.toNatClampNeg) z7 0)))) else some (0, 0, g5)))))))))) else some (0, 0, g2)))
set_option maxRecDepth 100000 in
set_option maxHeartbeats 4000000 in
theorem w_Mo_deliver_b14 {p : Program} {l : Launch} {e : Env} {R : Room} {s : State} {m : MethodId} {args : Array Value} {below : List Frame} {meth : Method} {c : Code} {L : mm_L} {eo : Nat} {v : Int32} {g' : mm_M} {g : mm_M} {r0 : Nat} {x1 : Int32} {u0 : Nat} {t1 : Int32} {H : Heap} {locs : List Loc} {ls : Array Slot} (hX : mm_X L prog_9_method_29_code 10 "LoanArrowsModel" (some .int) 4 102 p l R s m meth c) (h : f_Mo_deliver_b14 L.1 g r0 x1 u0 t1 = some (eo, v, g')) (hP : mm_P L g H) (hF : ∀ q ∈ locs, mm_F L q.base) (hl : lv_has ls 10 [(0, .ref (L.2.1 20 r0)), (1, .int x1)]) (hv_r0 : mm_lv L.1 20 r0) (hv_u0 : mm_lv L.1 20 u0) : W p l e R s m args below meth c H locs 0 0 (mm_Q below L s (mm_oi eo v) g') (F0 m 14 ls [.int t1, .ref (L.2.1 20 u0)]) := by
  have hX0 := hX
  obtain ⟨hx, hb, hml, hown, hr, hlk, hex, hRf, hRl, hRc, hRs, hJ, hK, hst, h00⟩ := hX0
  unfold f_Mo_deliver_b14 at h
  refine lv_iconst (v := 0) hx hb d_Mo_deliver_14 (by decide) ?_
  refine lv_iconst (v := 0) hx hb d_Mo_deliver_15 (by decide) ?_
  rcases mm_bd_some h with ⟨z1, g2, hf3, h⟩ | ⟨xe, z1, g2, hf3, h⟩
  · refine mm_goR (v := (some (.int z1))) (mm_goV (As := [.int t1, .int 0, .int 0]) (rest := []) hX (c_Mo_refused hv_u0 hf3) yw_Mo_refused wt_713 wt_715 ws_0_13 hP hF (mm_recv (h := 20) (i := u0) hX hP hv_u0 rfl rfl) rfl hl.1 (Nat.le_of_ble_eq_true rfl) (by decide) (by decide) hRc hRs d_Mo_deliver_16) hF (fun H locs hP hF _ => ?_)
    refine lv_if_eq (tgt := 24) hx hb d_Mo_deliver_19 rfl (fun hc => ?_) (fun hc => ?_)
    · have h := mm_pos hc h
      refine lv_aload_n hx hb d_Mo_deliver_24 rfl (lv_at hl 0 rfl) ?_
      refine mm_get (h := 20) (i := r0) 21 hX hP hv_r0 rfl rfl uin_20 (by decide) ⟨rfl, rfl, rfl⟩ wt_633 rfl d_Mo_deliver_25 ?_
      refine lv_iload_n hx hb d_Mo_deliver_28 rfl (lv_at hl 1 rfl) ?_
      obtain ⟨hin, h⟩ := mm_ix_some h
      refine mm_iald (h := 39) (i := 0) hX hP mm_ls39 (fun _ => rfl) rfl hin d_Mo_deliver_29 ?_
      refine lv_istore_n hx hb d_Mo_deliver_30 rfl hl (Nat.lt_of_lt_of_le (Nat.lt_succ_self _) (Nat.le_of_ble_eq_true rfl)) rfl (fun ls hl => ?_)
      have hl : lv_has ls 10 [(2, .int (g2 39 0 x1.toNatClampNeg)), (0, .ref (L.2.1 20 r0)), (1, .int x1)] := hl
      refine lv_aload_n hx hb d_Mo_deliver_31 rfl (lv_at hl 1 rfl) ?_
      refine mm_get (h := 20) (i := r0) 22 hX hP hv_r0 rfl rfl uin_20 (by decide) ⟨rfl, rfl, rfl⟩ wt_634 rfl d_Mo_deliver_32 ?_
      refine lv_iload_n hx hb d_Mo_deliver_35 rfl (lv_at hl 2 rfl) ?_
      obtain ⟨hin, h⟩ := mm_ix_some h
      refine mm_iald (h := 40) (i := 0) hX hP mm_ls40 (fun _ => rfl) rfl hin d_Mo_deliver_36 ?_
      refine lv_istore_n hx hb d_Mo_deliver_37 rfl hl (Nat.lt_of_lt_of_le (Nat.lt_succ_self _) (Nat.le_of_ble_eq_true rfl)) rfl (fun ls hl => ?_)
      have hl : lv_has ls 10 [(3, .int (g2 40 0 x1.toNatClampNeg)), (2, .int (g2 39 0 x1.toNatClampNeg)), (0, .ref (L.2.1 20 r0)), (1, .int x1)] := hl
      refine lv_aload_n hx hb d_Mo_deliver_38 rfl (lv_at hl 2 rfl) ?_
      refine mm_get (h := 20) (i := r0) 23 hX hP hv_r0 rfl rfl uin_20 (by decide) ⟨rfl, rfl, rfl⟩ wt_635 rfl d_Mo_deliver_39 ?_
      refine lv_iload_n hx hb d_Mo_deliver_42 rfl (lv_at hl 3 rfl) ?_
      obtain ⟨hin, h⟩ := mm_ix_some h
      refine mm_iald (h := 41) (i := 0) hX hP mm_ls41 (fun _ => rfl) rfl hin d_Mo_deliver_43 ?_
      refine lv_istore hx hb d_Mo_deliver_44 hl (Nat.lt_of_lt_of_le (Nat.lt_succ_self _) (Nat.le_of_ble_eq_true rfl)) rfl (fun ls hl => ?_)
      have hl : lv_has ls 10 [(4, .int (g2 41 0 x1.toNatClampNeg)), (3, .int (g2 40 0 x1.toNatClampNeg)), (2, .int (g2 39 0 x1.toNatClampNeg)), (0, .ref (L.2.1 20 r0)), (1, .int x1)] := hl
      refine lv_aload_n hx hb d_Mo_deliver_46 rfl (lv_at hl 3 rfl) ?_
      refine mm_get (h := 20) (i := r0) 24 hX hP hv_r0 rfl rfl uin_20 (by decide) ⟨rfl, rfl, rfl⟩ wt_636 rfl d_Mo_deliver_47 ?_
      refine lv_iload_n hx hb d_Mo_deliver_50 rfl (lv_at hl 4 rfl) ?_
      obtain ⟨hin, h⟩ := mm_ix_some h
      refine mm_iald (h := 42) (i := 0) hX hP mm_ls42 (fun _ => rfl) rfl hin d_Mo_deliver_51 ?_
      refine lv_istore hx hb d_Mo_deliver_52 hl (Nat.lt_of_lt_of_le (Nat.lt_succ_self _) (Nat.le_of_ble_eq_true rfl)) rfl (fun ls hl => ?_)
      have hl : lv_has ls 10 [(5, .int (g2 42 0 x1.toNatClampNeg)), (4, .int (g2 41 0 x1.toNatClampNeg)), (3, .int (g2 40 0 x1.toNatClampNeg)), (2, .int (g2 39 0 x1.toNatClampNeg)), (0, .ref (L.2.1 20 r0)), (1, .int x1)] := hl
      refine lv_aload_n hx hb d_Mo_deliver_54 rfl (lv_at hl 4 rfl) ?_
      refine mm_get (h := 20) (i := r0) 25 hX hP hv_r0 rfl rfl uin_20 (by decide) ⟨rfl, rfl, rfl⟩ wt_637 rfl d_Mo_deliver_55 ?_
      refine lv_iload_n hx hb d_Mo_deliver_58 rfl (lv_at hl 5 rfl) ?_
      obtain ⟨hin, h⟩ := mm_ix_some h
      refine mm_iald (h := 43) (i := 0) hX hP mm_ls43 (fun _ => rfl) rfl hin d_Mo_deliver_59 ?_
      refine lv_istore hx hb d_Mo_deliver_60 hl (Nat.lt_of_lt_of_le (Nat.lt_succ_self _) (Nat.le_of_ble_eq_true rfl)) rfl (fun ls hl => ?_)
      have hl : lv_has ls 10 [(6, .int (g2 43 0 x1.toNatClampNeg)), (5, .int (g2 42 0 x1.toNatClampNeg)), (4, .int (g2 41 0 x1.toNatClampNeg)), (3, .int (g2 40 0 x1.toNatClampNeg)), (2, .int (g2 39 0 x1.toNatClampNeg)), (0, .ref (L.2.1 20 r0)), (1, .int x1)] := hl
      refine lv_aload_n hx hb d_Mo_deliver_62 rfl (lv_at hl 5 rfl) ?_
      refine mm_get (h := 20) (i := r0) 26 hX hP hv_r0 rfl rfl uin_20 (by decide) ⟨rfl, rfl, rfl⟩ wt_638 rfl d_Mo_deliver_63 ?_
      refine lv_iload_n hx hb d_Mo_deliver_66 rfl (lv_at hl 6 rfl) ?_
      obtain ⟨hin, h⟩ := mm_ix_some h
      refine mm_iald (h := 44) (i := 0) hX hP mm_ls44 (fun _ => rfl) rfl hin d_Mo_deliver_67 ?_
      refine lv_istore hx hb d_Mo_deliver_68 hl (Nat.lt_of_lt_of_le (Nat.lt_succ_self _) (Nat.le_of_ble_eq_true rfl)) rfl (fun ls hl => ?_)
      have hl : lv_has ls 10 [(7, .int (g2 44 0 x1.toNatClampNeg)), (6, .int (g2 43 0 x1.toNatClampNeg)), (5, .int (g2 42 0 x1.toNatClampNeg)), (4, .int (g2 41 0 x1.toNatClampNeg)), (3, .int (g2 40 0 x1.toNatClampNeg)), (2, .int (g2 39 0 x1.toNatClampNeg)), (0, .ref (L.2.1 20 r0)), (1, .int x1)] := hl
      refine lv_aload_n hx hb d_Mo_deliver_70 rfl (lv_at hl 6 rfl) ?_
      refine lv_iload_n hx hb d_Mo_deliver_71 rfl (lv_at hl 7 rfl) ?_
      rcases mm_bd_some h with ⟨z4, g5, hf6, h⟩ | ⟨xe, z4, g5, hf6, h⟩
      · refine mm_goR (v := none) (mm_goV (As := [.int x1]) (rest := []) hX (c_Mo_takeOut hv_r0 hf6) yw_Mo_takeOut wt_796 wt_798 ws_1_9 hP hF (mm_recv (h := 20) (i := r0) hX hP hv_r0 rfl rfl) rfl hl.1 (Nat.le_of_ble_eq_true rfl) (by decide) (by decide) hRc hRs d_Mo_deliver_72) hF (fun H locs hP hF _ => ?_)
        refine lv_aload_n hx hb d_Mo_deliver_75 rfl (lv_at hl 6 rfl) ?_
        refine mm_get (h := 20) (i := r0) 3 hX hP hv_r0 rfl rfl uin_20 (by decide) ⟨rfl, rfl, rfl⟩ wt_615 rfl d_Mo_deliver_76 ?_
        refine lv_iload hx hb d_Mo_deliver_79 (lv_at hl 3 rfl) ?_
        obtain ⟨hin, h⟩ := mm_ix_some h
        refine mm_zald (h := 22) (i := 0) hX hP mm_ls22 (fun _ => rfl) rfl hin d_Mo_deliver_81 ?_
        refine lv_if_eq (tgt := 87) hx hb d_Mo_deliver_82 rfl (fun hc => ?_) (fun hc => ?_)
        · have h := mm_pos hc h
          refine lv_iload_n hx hb d_Mo_deliver_87 rfl (lv_at hl 5 rfl) ?_
          refine lv_iconst (v := 1) hx hb d_Mo_deliver_88 (by decide) ?_
          refine lv_icmp_ne (tgt := 169) hx hb d_Mo_deliver_89 rfl (fun hc => ?_) (fun hc => ?_)
          · have h := mm_neg hc h
            refine lv_aload_n hx hb d_Mo_deliver_169 rfl (lv_at hl 6 rfl) ?_
            refine lv_iload_n hx hb d_Mo_deliver_170 rfl (lv_at hl 4 rfl) ?_
            refine lv_iload hx hb d_Mo_deliver_171 (lv_at hl 3 rfl) ?_
            rcases mm_bd_some h with ⟨z7, g8, hf9, h⟩ | ⟨xe, z7, g8, hf9, h⟩
            · refine mm_goR (v := (some (.int z7))) (mm_goV (As := [.int (g2 40 0 x1.toNatClampNeg), .int (g2 41 0 x1.toNatClampNeg)]) (rest := []) hX (c_Mo_direction hv_r0 hf9) yw_Mo_direction wt_744 wt_746 ws_1_3 hP hF (mm_recv (h := 20) (i := r0) hX hP hv_r0 rfl rfl) rfl hl.1 (Nat.le_of_ble_eq_true rfl) (by decide) (by decide) hRc hRs d_Mo_deliver_173) hF (fun H locs hP hF _ => ?_)
              refine lv_istore hx hb d_Mo_deliver_176 hl (Nat.lt_of_lt_of_le (Nat.lt_succ_self _) (Nat.le_of_ble_eq_true rfl)) rfl (fun ls hl => ?_)
              have hl : lv_has ls 10 [(8, .int z7), (7, .int (g2 44 0 x1.toNatClampNeg)), (6, .int (g2 43 0 x1.toNatClampNeg)), (5, .int (g2 42 0 x1.toNatClampNeg)), (4, .int (g2 41 0 x1.toNatClampNeg)), (3, .int (g2 40 0 x1.toNatClampNeg)), (2, .int (g2 39 0 x1.toNatClampNeg)), (0, .ref (L.2.1 20 r0)), (1, .int x1)] := hl
              refine lv_iload hx hb d_Mo_deliver_178 (lv_at hl 3 rfl) ?_
              refine lv_aload_n hx hb d_Mo_deliver_180 rfl (lv_at hl 7 rfl) ?_
              refine mm_get (h := 20) (i := r0) 17 hX hP hv_r0 rfl rfl uin_20 (by decide) ⟨rfl, rfl, rfl⟩ wt_629 rfl d_Mo_deliver_181 ?_
              refine lv_iload hx hb d_Mo_deliver_184 (lv_at hl 0 rfl) ?_
              obtain ⟨hin, h⟩ := mm_ix_some h
              refine mm_iald (h := 36) (i := 0) hX hP mm_ls36 (fun _ => rfl) rfl hin d_Mo_deliver_186 ?_
              refine lv_icmp_ne (tgt := 194) hx hb d_Mo_deliver_187 rfl (fun hc => ?_) (fun hc => ?_)
              · have h := mm_neg hc h
                refine lv_iconst (v := 0) hx hb d_Mo_deliver_194 (by decide) ?_
                exact w_Mo_deliver_b195 hX h hP hF (lv_sub (l' := [(0, .ref (L.2.1 20 r0)), (3, .int (g2 40 0 x1.toNatClampNeg)), (4, .int (g2 41 0 x1.toNatClampNeg)), (5, .int (g2 42 0 x1.toNatClampNeg)), (6, .int (g2 43 0 x1.toNatClampNeg)), (7, .int (g2 44 0 x1.toNatClampNeg)), (8, .int z7)]) hl [7, 5, 4, 3, 2, 1, 0] rfl) hv_r0
              · have h := mm_pos hc h
                refine lv_iconst (v := 1) hx hb d_Mo_deliver_190 (by decide) ?_
                refine lv_goto (tgt := 195) hx hb d_Mo_deliver_191 rfl ?_
                exact w_Mo_deliver_b195 hX h hP hF (lv_sub (l' := [(0, .ref (L.2.1 20 r0)), (3, .int (g2 40 0 x1.toNatClampNeg)), (4, .int (g2 41 0 x1.toNatClampNeg)), (5, .int (g2 42 0 x1.toNatClampNeg)), (6, .int (g2 43 0 x1.toNatClampNeg)), (7, .int (g2 44 0 x1.toNatClampNeg)), (8, .int z7)]) hl [7, 5, 4, 3, 2, 1, 0] rfl) hv_r0
            · cases h
              exact mm_goT (x := xe + 1) (mm_goV (As := [.int (g2 40 0 x1.toNatClampNeg), .int (g2 41 0 x1.toNatClampNeg)]) (rest := []) hX (c_Mo_direction hv_r0 hf9) yw_Mo_direction wt_744 wt_746 ws_1_3 hP hF (mm_recv (h := 20) (i := r0) hX hP hv_r0 rfl rfl) rfl hl.1 (Nat.le_of_ble_eq_true rfl) (by decide) (by decide) hRc hRs d_Mo_deliver_173) hF hex hlk
          · have h := mm_pos hc h
            refine lv_aload_n hx hb d_Mo_deliver_92 rfl (lv_at hl 6 rfl) ?_
            refine lv_iload hx hb d_Mo_deliver_93 (lv_at hl 3 rfl) ?_
            refine lv_iload_n hx hb d_Mo_deliver_95 rfl (lv_at hl 4 rfl) ?_
            rcases mm_bd_some h with ⟨z10, g11, hf12, h⟩ | ⟨xe, z10, g11, hf12, h⟩
            · refine mm_goR (v := (some (.int z10))) (mm_goV (As := [.int (g2 41 0 x1.toNatClampNeg), .int (g2 40 0 x1.toNatClampNeg)]) (rest := []) hX (c_Mo_direction hv_r0 hf12) yw_Mo_direction wt_744 wt_746 ws_1_3 hP hF (mm_recv (h := 20) (i := r0) hX hP hv_r0 rfl rfl) rfl hl.1 (Nat.le_of_ble_eq_true rfl) (by decide) (by decide) hRc hRs d_Mo_deliver_96) hF (fun H locs hP hF _ => ?_)
              refine lv_istore hx hb d_Mo_deliver_99 hl (Nat.lt_of_lt_of_le (Nat.lt_succ_self _) (Nat.le_of_ble_eq_true rfl)) rfl (fun ls hl => ?_)
              have hl : lv_has ls 10 [(8, .int z10), (7, .int (g2 44 0 x1.toNatClampNeg)), (6, .int (g2 43 0 x1.toNatClampNeg)), (5, .int (g2 42 0 x1.toNatClampNeg)), (4, .int (g2 41 0 x1.toNatClampNeg)), (3, .int (g2 40 0 x1.toNatClampNeg)), (2, .int (g2 39 0 x1.toNatClampNeg)), (0, .ref (L.2.1 20 r0)), (1, .int x1)] := hl
              refine lv_aload_n hx hb d_Mo_deliver_101 rfl (lv_at hl 7 rfl) ?_
              refine mm_get (h := 20) (i := r0) 16 hX hP hv_r0 rfl rfl uin_20 (by decide) ⟨rfl, rfl, rfl⟩ wt_628 rfl d_Mo_deliver_102 ?_
              refine lv_iload hx hb d_Mo_deliver_105 (lv_at hl 0 rfl) ?_
              obtain ⟨hin, h⟩ := mm_ix_some h
              refine mm_iald (h := 35) (i := 0) hX hP mm_ls35 (fun _ => rfl) rfl hin d_Mo_deliver_107 ?_
              refine lv_aload_n hx hb d_Mo_deliver_108 rfl (lv_at hl 7 rfl) ?_
              refine mm_get (h := 20) (i := r0) 15 hX hP hv_r0 rfl rfl uin_20 (by decide) ⟨rfl, rfl, rfl⟩ wt_627 rfl d_Mo_deliver_109 ?_
              refine lv_iload hx hb d_Mo_deliver_112 (lv_at hl 0 rfl) ?_
              obtain ⟨hin, h⟩ := mm_ix_some h
              refine mm_iald (h := 34) (i := 0) hX hP mm_ls34 (fun _ => rfl) rfl hin d_Mo_deliver_114 ?_
              refine lv_icmp_eq (tgt := 130) hx hb d_Mo_deliver_115 rfl (fun hc => ?_) (fun hc => ?_)
              · have h := mm_pos hc h
                exact w_Mo_deliver_b130 hX h hP hF (lv_sub (l' := []) hl [] rfl)
              · have h := mm_neg hc h
                refine lv_aload_n hx hb d_Mo_deliver_118 rfl (lv_at hl 7 rfl) ?_
                refine mm_get (h := 20) (i := r0) 15 hX hP hv_r0 rfl rfl uin_20 (by decide) ⟨rfl, rfl, rfl⟩ wt_627 rfl d_Mo_deliver_119 ?_
                refine lv_iload hx hb d_Mo_deliver_122 (lv_at hl 0 rfl) ?_
                obtain ⟨hin, h⟩ := mm_ix_some h
                refine mm_iald (h := 34) (i := 0) hX hP mm_ls34 (fun _ => rfl) rfl hin d_Mo_deliver_124 ?_
                refine lv_iload hx hb d_Mo_deliver_125 (lv_at hl 3 rfl) ?_
                refine lv_icmp_eq (tgt := 132) hx hb d_Mo_deliver_127 rfl (fun hc => ?_) (fun hc => ?_)
                · have h := mm_pos hc h
                  refine lv_aload_n hx hb d_Mo_deliver_132 rfl (lv_at hl 7 rfl) ?_
                  refine mm_get (h := 20) (i := r0) 15 hX hP hv_r0 rfl rfl uin_20 (by decide) ⟨rfl, rfl, rfl⟩ wt_627 rfl d_Mo_deliver_133 ?_
                  refine lv_iload hx hb d_Mo_deliver_136 (lv_at hl 0 rfl) ?_
                  refine lv_dup2_11 hx hb d_Mo_deliver_138 rfl rfl ?_
                  obtain ⟨hin, h⟩ := mm_ix_some h
                  refine mm_iald (h := 34) (i := 0) hX hP mm_ls34 (fun _ => rfl) rfl hin d_Mo_deliver_139 ?_
                  refine lv_iconst (v := 1) hx hb d_Mo_deliver_140 (by decide) ?_
                  refine lv_iadd hx hb d_Mo_deliver_141 ?_
                  obtain ⟨hin, h⟩ := mm_ix_some h
                  refine mm_iast (h := 34) (i := 0) hX hP hF mm_ls34 (fun _ => rfl) rfl hin d_Mo_deliver_142 (fun H locs hP hF => ?_)
                  obtain ⟨g13, e14, h⟩ := mm_let_ex h
                  have hP : mm_P L g13 H := by rw [e14]; exact hP
                  refine lv_aload_n hx hb d_Mo_deliver_143 rfl (lv_at hl 7 rfl) ?_
                  refine mm_get (h := 20) (i := r0) 16 hX hP hv_r0 rfl rfl uin_20 (by decide) ⟨rfl, rfl, rfl⟩ wt_628 rfl d_Mo_deliver_144 ?_
                  refine lv_iload hx hb d_Mo_deliver_147 (lv_at hl 0 rfl) ?_
                  obtain ⟨hin, h⟩ := mm_ix_some h
                  refine mm_iald (h := 35) (i := 0) hX hP mm_ls35 (fun _ => rfl) rfl hin d_Mo_deliver_149 ?_
                  refine lv_aload_n hx hb d_Mo_deliver_150 rfl (lv_at hl 7 rfl) ?_
                  refine mm_get (h := 20) (i := r0) 15 hX hP hv_r0 rfl rfl uin_20 (by decide) ⟨rfl, rfl, rfl⟩ wt_627 rfl d_Mo_deliver_151 ?_
                  refine lv_iload hx hb d_Mo_deliver_154 (lv_at hl 0 rfl) ?_
                  obtain ⟨hin, h⟩ := mm_ix_some h
                  refine mm_iald (h := 34) (i := 0) hX hP mm_ls34 (fun _ => rfl) rfl hin d_Mo_deliver_156 ?_
                  refine lv_icmp_le (tgt := 167) hx hb d_Mo_deliver_157 rfl (fun hc => ?_) (fun hc => ?_)
                  · have h := mm_pos hc h
                    exact w_Mo_deliver_b167 hX h hP hF (lv_sub (l' := []) hl [] rfl)
                  · have h := mm_neg hc h
                    refine lv_aload_n hx hb d_Mo_deliver_160 rfl (lv_at hl 7 rfl) ?_
                    refine lv_iload hx hb d_Mo_deliver_161 (lv_at hl 4 rfl) ?_
                    refine lv_iload_n hx hb d_Mo_deliver_163 rfl (lv_at hl 5 rfl) ?_
                    rcases mm_bd_some h with ⟨z15, g16, hf17, h⟩ | ⟨xe, z15, g16, hf17, h⟩
                    · refine mm_goR (v := none) (mm_goV (As := [.int (g2 41 0 x1.toNatClampNeg), .int (g2 40 0 x1.toNatClampNeg)]) (rest := []) hX (c_Mo_postFirst hv_r0 hf17) yw_Mo_postFirst wt_748 wt_750 ws_1_4 hP hF (mm_recv (h := 20) (i := r0) hX hP hv_r0 rfl rfl) rfl hl.1 (Nat.le_of_ble_eq_true rfl) (by decide) (by decide) hRc hRs d_Mo_deliver_164) hF (fun H locs hP hF _ => ?_)
                      exact w_Mo_deliver_b167 hX h hP hF (lv_sub (l' := []) hl [] rfl)
                    · cases h
                      exact mm_goT (x := xe + 1) (mm_goV (As := [.int (g2 41 0 x1.toNatClampNeg), .int (g2 40 0 x1.toNatClampNeg)]) (rest := []) hX (c_Mo_postFirst hv_r0 hf17) yw_Mo_postFirst wt_748 wt_750 ws_1_4 hP hF (mm_recv (h := 20) (i := r0) hX hP hv_r0 rfl rfl) rfl hl.1 (Nat.le_of_ble_eq_true rfl) (by decide) (by decide) hRc hRs d_Mo_deliver_164) hF hex hlk
                · have h := mm_neg hc h
                  exact w_Mo_deliver_b130 hX h hP hF (lv_sub (l' := []) hl [] rfl)
            · cases h
              exact mm_goT (x := xe + 1) (mm_goV (As := [.int (g2 41 0 x1.toNatClampNeg), .int (g2 40 0 x1.toNatClampNeg)]) (rest := []) hX (c_Mo_direction hv_r0 hf12) yw_Mo_direction wt_744 wt_746 ws_1_3 hP hF (mm_recv (h := 20) (i := r0) hX hP hv_r0 rfl rfl) rfl hl.1 (Nat.le_of_ble_eq_true rfl) (by decide) (by decide) hRc hRs d_Mo_deliver_96) hF hex hlk
        · have h := mm_neg hc h
          refine lv_iconst (v := 0) hx hb d_Mo_deliver_85 (by decide) ?_
          cases h
          exact mm_iret hx hb hr hlk hP hF d_Mo_deliver_86
      · cases h
        exact mm_goT (x := xe + 1) (mm_goV (As := [.int x1]) (rest := []) hX (c_Mo_takeOut hv_r0 hf6) yw_Mo_takeOut wt_796 wt_798 ws_1_9 hP hF (mm_recv (h := 20) (i := r0) hX hP hv_r0 rfl rfl) rfl hl.1 (Nat.le_of_ble_eq_true rfl) (by decide) (by decide) hRc hRs d_Mo_deliver_72) hF hex hlk
    · have h := mm_neg hc h
      refine lv_iconst (v := 0) hx hb d_Mo_deliver_22 (by decide) ?_
      cases h
      exact mm_iret hx hb hr hlk hP hF d_Mo_deliver_23
  · cases h
    exact mm_goT (x := xe + 1) (mm_goV (As := [.int t1, .int 0, .int 0]) (rest := []) hX (c_Mo_refused hv_u0 hf3) yw_Mo_refused wt_713 wt_715 ws_0_13 hP hF (mm_recv (h := 20) (i := u0) hX hP hv_u0 rfl rfl) rfl hl.1 (Nat.le_of_ble_eq_true rfl) (by decide) (by decide) hRc hRs d_Mo_deliver_16) hF hex hlk
def f_Mo_deliver (n : Nat) (g : mm_M) (r0 : Nat) (x1 : Int32) : Option (Nat × Int32 × mm_M) :=
  mm_bd (f_Mo_isPacket n g r0 x1) 0 (fun z1 g2 => (if z1 = 0 then f_Mo_deliver_b14 n g2 r0 x1 r0 1 else f_Mo_deliver_b14 n g2 r0 x1 r0 0))
set_option maxRecDepth 100000 in
set_option maxHeartbeats 4000000 in
theorem w_Mo_deliver {p : Program} {l : Launch} {e : Env} {R : Room} {s : State} {m : MethodId} {args : Array Value} {below : List Frame} {meth : Method} {c : Code} {L : mm_L} {eo : Nat} {v : Int32} {g' : mm_M} {g : mm_M} {r0 : Nat} {x1 : Int32} {H : Heap} {locs : List Loc} {ls : Array Slot} (hX : mm_X L prog_9_method_29_code 10 "LoanArrowsModel" (some .int) 4 102 p l R s m meth c) (h : f_Mo_deliver L.1 g r0 x1 = some (eo, v, g')) (hP : mm_P L g H) (hF : ∀ q ∈ locs, mm_F L q.base) (hl : lv_has ls 10 [(0, .ref (L.2.1 20 r0)), (1, .int x1)]) (hv_r0 : mm_lv L.1 20 r0) : W p l e R s m args below meth c H locs 0 0 (mm_Q below L s (mm_oi eo v) g') (F0 m 0 ls []) := by
  have hX0 := hX
  obtain ⟨hx, hb, hml, hown, hr, hlk, hex, hRf, hRl, hRc, hRs, hJ, hK, hst, h00⟩ := hX0
  unfold f_Mo_deliver at h
  refine lv_aload_n hx hb d_Mo_deliver_0 rfl (lv_at hl 0 rfl) ?_
  refine lv_aload_n hx hb d_Mo_deliver_1 rfl (lv_at hl 0 rfl) ?_
  refine lv_iload_n hx hb d_Mo_deliver_2 rfl (lv_at hl 1 rfl) ?_
  rcases mm_bd_some h with ⟨z1, g2, hf3, h⟩ | ⟨xe, z1, g2, hf3, h⟩
  · refine mm_goR (v := (some (.int z1))) (mm_goV (As := [.int x1]) (rest := [.ref (L.2.1 20 r0)]) hX (c_Mo_isPacket hv_r0 hf3) yw_Mo_isPacket wt_788 wt_790 ws_1_8 hP hF (mm_recv (h := 20) (i := r0) hX hP hv_r0 rfl rfl) rfl hl.1 (Nat.le_of_ble_eq_true rfl) (by decide) (by decide) hRc hRs d_Mo_deliver_3) hF (fun H locs hP hF _ => ?_)
    refine lv_if_ne (tgt := 13) hx hb d_Mo_deliver_6 rfl (fun hc => ?_) (fun hc => ?_)
    · have h := mm_neg hc h
      refine lv_iconst (v := 0) hx hb d_Mo_deliver_13 (by decide) ?_
      exact w_Mo_deliver_b14 hX h hP hF (lv_sub (l' := [(0, .ref (L.2.1 20 r0)), (1, .int x1)]) hl [0, 1] rfl) hv_r0 hv_r0
    · have h := mm_pos hc h
      refine lv_iconst (v := 1) hx hb d_Mo_deliver_9 (by decide) ?_
      refine lv_goto (tgt := 14) hx hb d_Mo_deliver_10 rfl ?_
      exact w_Mo_deliver_b14 hX h hP hF (lv_sub (l' := [(0, .ref (L.2.1 20 r0)), (1, .int x1)]) hl [0, 1] rfl) hv_r0 hv_r0
  · cases h
    exact mm_goT (x := xe + 1) (mm_goV (As := [.int x1]) (rest := [.ref (L.2.1 20 r0)]) hX (c_Mo_isPacket hv_r0 hf3) yw_Mo_isPacket wt_788 wt_790 ws_1_8 hP hF (mm_recv (h := 20) (i := r0) hX hP hv_r0 rfl rfl) rfl hl.1 (Nat.le_of_ble_eq_true rfl) (by decide) (by decide) hRc hRs d_Mo_deliver_3) hF hex hlk
set_option maxRecDepth 100000 in
set_option maxHeartbeats 4000000 in
theorem c_Mo_deliver {l : Launch} {L : mm_L} {g g' : mm_M} {eo : Nat} {v : Int32} {r0 : Nat} {x1 : Int32} (hv_r0 : mm_lv L.1 20 r0) (h : f_Mo_deliver L.1 g r0 x1 = some (eo, v, g')) : mm_C l y_Mo_deliver prog_9_method_29_code 10 (some .int) 4 102 L [.ref (L.2.1 20 r0), .int x1] g (mm_oi eo v) g' := by
  intro p e R s m below meth c hX hP
  refine mm_enter (Nat.le_of_ble_eq_true rfl) fun ls hl => ?_
  exact w_Mo_deliver hX h hP (fun q hq => by cases hq) (lv_sub (l' := [(0, .ref (L.2.1 20 r0)), (1, .int x1)]) hl [0, 1] rfl) hv_r0
def f_Mo_drop_b14 (n : Nat) (g : mm_M) (r0 : Nat) (x1 : Int32) (u0 : Nat) (t1 : Int32) : Option (Nat × Int32 × mm_M) :=
  mm_bd (f_Mo_refused n g u0 t1 0 0) 0 (fun z1 g2 => (if z1 = 0 then mm_bd (f_Mo_takeOut n g2 r0 x1) 0 (fun z4 g5 => some (0, (g5 20 r0 20), g5)) else some (0, 0, g2)))
set_option maxRecDepth 100000 in
set_option maxHeartbeats 4000000 in
theorem w_Mo_drop_b14 {p : Program} {l : Launch} {e : Env} {R : Room} {s : State} {m : MethodId} {args : Array Value} {below : List Frame} {meth : Method} {c : Code} {L : mm_L} {eo : Nat} {v : Int32} {g' : mm_M} {g : mm_M} {r0 : Nat} {x1 : Int32} {u0 : Nat} {t1 : Int32} {H : Heap} {locs : List Loc} {ls : Array Slot} (hX : mm_X L prog_9_method_30_code 2 "LoanArrowsModel" (some .int) 1 23 p l R s m meth c) (h : f_Mo_drop_b14 L.1 g r0 x1 u0 t1 = some (eo, v, g')) (hP : mm_P L g H) (hF : ∀ q ∈ locs, mm_F L q.base) (hl : lv_has ls 2 [(0, .ref (L.2.1 20 r0)), (1, .int x1)]) (hv_r0 : mm_lv L.1 20 r0) (hv_u0 : mm_lv L.1 20 u0) : W p l e R s m args below meth c H locs 0 0 (mm_Q below L s (mm_oi eo v) g') (F0 m 14 ls [.int t1, .ref (L.2.1 20 u0)]) := by
  have hX0 := hX
  obtain ⟨hx, hb, hml, hown, hr, hlk, hex, hRf, hRl, hRc, hRs, hJ, hK, hst, h00⟩ := hX0
  unfold f_Mo_drop_b14 at h
  refine lv_iconst (v := 0) hx hb d_Mo_drop_14 (by decide) ?_
  refine lv_iconst (v := 0) hx hb d_Mo_drop_15 (by decide) ?_
  rcases mm_bd_some h with ⟨z1, g2, hf3, h⟩ | ⟨xe, z1, g2, hf3, h⟩
  · refine mm_goR (v := (some (.int z1))) (mm_goV (As := [.int t1, .int 0, .int 0]) (rest := []) hX (c_Mo_refused hv_u0 hf3) yw_Mo_refused wt_713 wt_715 ws_0_13 hP hF (mm_recv (h := 20) (i := u0) hX hP hv_u0 rfl rfl) rfl hl.1 (Nat.le_of_ble_eq_true rfl) (by decide) (by decide) hRc hRs d_Mo_drop_16) hF (fun H locs hP hF _ => ?_)
    refine lv_if_eq (tgt := 24) hx hb d_Mo_drop_19 rfl (fun hc => ?_) (fun hc => ?_)
    · have h := mm_pos hc h
      refine lv_aload_n hx hb d_Mo_drop_24 rfl (lv_at hl 0 rfl) ?_
      refine lv_iload_n hx hb d_Mo_drop_25 rfl (lv_at hl 1 rfl) ?_
      rcases mm_bd_some h with ⟨z4, g5, hf6, h⟩ | ⟨xe, z4, g5, hf6, h⟩
      · refine mm_goR (v := none) (mm_goV (As := [.int x1]) (rest := []) hX (c_Mo_takeOut hv_r0 hf6) yw_Mo_takeOut wt_796 wt_798 ws_1_9 hP hF (mm_recv (h := 20) (i := r0) hX hP hv_r0 rfl rfl) rfl hl.1 (Nat.le_of_ble_eq_true rfl) (by decide) (by decide) hRc hRs d_Mo_drop_26) hF (fun H locs hP hF _ => ?_)
        refine lv_aload_n hx hb d_Mo_drop_29 rfl (lv_at hl 0 rfl) ?_
        refine mm_get (h := 20) (i := r0) 20 hX hP hv_r0 rfl rfl uin_20 (by decide) ⟨rfl, rfl, rfl⟩ wt_632 rfl d_Mo_drop_30 ?_
        cases h
        exact mm_iret hx hb hr hlk hP hF d_Mo_drop_33
      · cases h
        exact mm_goT (x := xe + 1) (mm_goV (As := [.int x1]) (rest := []) hX (c_Mo_takeOut hv_r0 hf6) yw_Mo_takeOut wt_796 wt_798 ws_1_9 hP hF (mm_recv (h := 20) (i := r0) hX hP hv_r0 rfl rfl) rfl hl.1 (Nat.le_of_ble_eq_true rfl) (by decide) (by decide) hRc hRs d_Mo_drop_26) hF hex hlk
    · have h := mm_neg hc h
      refine lv_iconst (v := 0) hx hb d_Mo_drop_22 (by decide) ?_
      cases h
      exact mm_iret hx hb hr hlk hP hF d_Mo_drop_23
  · cases h
    exact mm_goT (x := xe + 1) (mm_goV (As := [.int t1, .int 0, .int 0]) (rest := []) hX (c_Mo_refused hv_u0 hf3) yw_Mo_refused wt_713 wt_715 ws_0_13 hP hF (mm_recv (h := 20) (i := u0) hX hP hv_u0 rfl rfl) rfl hl.1 (Nat.le_of_ble_eq_true rfl) (by decide) (by decide) hRc hRs d_Mo_drop_16) hF hex hlk
def f_Mo_drop (n : Nat) (g : mm_M) (r0 : Nat) (x1 : Int32) : Option (Nat × Int32 × mm_M) :=
  mm_bd (f_Mo_isPacket n g r0 x1) 0 (fun z1 g2 => (if z1 = 0 then f_Mo_drop_b14 n g2 r0 x1 r0 1 else f_Mo_drop_b14 n g2 r0 x1 r0 0))
set_option maxRecDepth 100000 in
set_option maxHeartbeats 4000000 in
theorem w_Mo_drop {p : Program} {l : Launch} {e : Env} {R : Room} {s : State} {m : MethodId} {args : Array Value} {below : List Frame} {meth : Method} {c : Code} {L : mm_L} {eo : Nat} {v : Int32} {g' : mm_M} {g : mm_M} {r0 : Nat} {x1 : Int32} {H : Heap} {locs : List Loc} {ls : Array Slot} (hX : mm_X L prog_9_method_30_code 2 "LoanArrowsModel" (some .int) 1 23 p l R s m meth c) (h : f_Mo_drop L.1 g r0 x1 = some (eo, v, g')) (hP : mm_P L g H) (hF : ∀ q ∈ locs, mm_F L q.base) (hl : lv_has ls 2 [(0, .ref (L.2.1 20 r0)), (1, .int x1)]) (hv_r0 : mm_lv L.1 20 r0) : W p l e R s m args below meth c H locs 0 0 (mm_Q below L s (mm_oi eo v) g') (F0 m 0 ls []) := by
  have hX0 := hX
  obtain ⟨hx, hb, hml, hown, hr, hlk, hex, hRf, hRl, hRc, hRs, hJ, hK, hst, h00⟩ := hX0
  unfold f_Mo_drop at h
  refine lv_aload_n hx hb d_Mo_drop_0 rfl (lv_at hl 0 rfl) ?_
  refine lv_aload_n hx hb d_Mo_drop_1 rfl (lv_at hl 0 rfl) ?_
  refine lv_iload_n hx hb d_Mo_drop_2 rfl (lv_at hl 1 rfl) ?_
  rcases mm_bd_some h with ⟨z1, g2, hf3, h⟩ | ⟨xe, z1, g2, hf3, h⟩
  · refine mm_goR (v := (some (.int z1))) (mm_goV (As := [.int x1]) (rest := [.ref (L.2.1 20 r0)]) hX (c_Mo_isPacket hv_r0 hf3) yw_Mo_isPacket wt_788 wt_790 ws_1_8 hP hF (mm_recv (h := 20) (i := r0) hX hP hv_r0 rfl rfl) rfl hl.1 (Nat.le_of_ble_eq_true rfl) (by decide) (by decide) hRc hRs d_Mo_drop_3) hF (fun H locs hP hF _ => ?_)
    refine lv_if_ne (tgt := 13) hx hb d_Mo_drop_6 rfl (fun hc => ?_) (fun hc => ?_)
    · have h := mm_neg hc h
      refine lv_iconst (v := 0) hx hb d_Mo_drop_13 (by decide) ?_
      exact w_Mo_drop_b14 hX h hP hF (lv_sub (l' := [(0, .ref (L.2.1 20 r0)), (1, .int x1)]) hl [0, 1] rfl) hv_r0 hv_r0
    · have h := mm_pos hc h
      refine lv_iconst (v := 1) hx hb d_Mo_drop_9 (by decide) ?_
      refine lv_goto (tgt := 14) hx hb d_Mo_drop_10 rfl ?_
      exact w_Mo_drop_b14 hX h hP hF (lv_sub (l' := [(0, .ref (L.2.1 20 r0)), (1, .int x1)]) hl [0, 1] rfl) hv_r0 hv_r0
  · cases h
    exact mm_goT (x := xe + 1) (mm_goV (As := [.int x1]) (rest := [.ref (L.2.1 20 r0)]) hX (c_Mo_isPacket hv_r0 hf3) yw_Mo_isPacket wt_788 wt_790 ws_1_8 hP hF (mm_recv (h := 20) (i := r0) hX hP hv_r0 rfl rfl) rfl hl.1 (Nat.le_of_ble_eq_true rfl) (by decide) (by decide) hRc hRs d_Mo_drop_3) hF hex hlk
set_option maxRecDepth 100000 in
set_option maxHeartbeats 4000000 in
theorem c_Mo_drop {l : Launch} {L : mm_L} {g g' : mm_M} {eo : Nat} {v : Int32} {r0 : Nat} {x1 : Int32} (hv_r0 : mm_lv L.1 20 r0) (h : f_Mo_drop L.1 g r0 x1 = some (eo, v, g')) : mm_C l y_Mo_drop prog_9_method_30_code 2 (some .int) 1 23 L [.ref (L.2.1 20 r0), .int x1] g (mm_oi eo v) g' := by
  intro p e R s m below meth c hX hP
  refine mm_enter (Nat.le_of_ble_eq_true rfl) fun ls hl => ?_
  exact w_Mo_drop hX h hP (fun q hq => by cases hq) (lv_sub (l' := [(0, .ref (L.2.1 20 r0)), (1, .int x1)]) hl [0, 1] rfl) hv_r0
def f_Mo_twin_b70 (n : Nat) (g : mm_M) (t0 : Int32) : Option (Nat × Int32 × mm_M) :=
  mm_nz t0 (some (0, t0, g))
set_option maxRecDepth 100000 in
set_option maxHeartbeats 4000000 in
theorem w_Mo_twin_b70 {p : Program} {l : Launch} {e : Env} {R : Room} {s : State} {m : MethodId} {args : Array Value} {below : List Frame} {meth : Method} {c : Code} {L : mm_L} {eo : Nat} {v : Int32} {g' : mm_M} {g : mm_M} {t0 : Int32} {H : Heap} {locs : List Loc} {ls : Array Slot} (hX : mm_X L prog_9_method_31_code 2 "LoanArrowsModel" (some .boolean) 1 26 p l R s m meth c) (h : f_Mo_twin_b70 L.1 g t0 = some (eo, v, g')) (hP : mm_P L g H) (hF : ∀ q ∈ locs, mm_F L q.base) (hl : lv_has ls 2 []) : W p l e R s m args below meth c H locs 0 0 (mm_Q below L s (mm_oi eo v) g') (F0 m 70 ls [.int t0]) := by
  have hX0 := hX
  obtain ⟨hx, hb, hml, hown, hr, hlk, hex, hRf, hRl, hRc, hRs, hJ, hK, hst, h00⟩ := hX0
  unfold f_Mo_twin_b70 at h
  obtain ⟨hn, h⟩ := mm_nz_some h
  cases h
  exact mm_zret hx hb hr hn hlk hP hF d_Mo_twin_70
def f_Mo_twin_b69 (n : Nat) (g : mm_M)  : Option (Nat × Int32 × mm_M) :=
  f_Mo_twin_b70 n g 0
set_option maxRecDepth 100000 in
set_option maxHeartbeats 4000000 in
theorem w_Mo_twin_b69 {p : Program} {l : Launch} {e : Env} {R : Room} {s : State} {m : MethodId} {args : Array Value} {below : List Frame} {meth : Method} {c : Code} {L : mm_L} {eo : Nat} {v : Int32} {g' : mm_M} {g : mm_M} {H : Heap} {locs : List Loc} {ls : Array Slot} (hX : mm_X L prog_9_method_31_code 2 "LoanArrowsModel" (some .boolean) 1 26 p l R s m meth c) (h : f_Mo_twin_b69 L.1 g = some (eo, v, g')) (hP : mm_P L g H) (hF : ∀ q ∈ locs, mm_F L q.base) (hl : lv_has ls 2 []) : W p l e R s m args below meth c H locs 0 0 (mm_Q below L s (mm_oi eo v) g') (F0 m 69 ls []) := by
  have hX0 := hX
  obtain ⟨hx, hb, hml, hown, hr, hlk, hex, hRf, hRl, hRc, hRs, hJ, hK, hst, h00⟩ := hX0
  unfold f_Mo_twin_b69 at h
  refine lv_iconst (v := 0) hx hb d_Mo_twin_69 (by decide) ?_
  exact w_Mo_twin_b70 hX h hP hF (lv_sub (l' := []) hl [] rfl)
def f_Mo_twin_b14 (n : Nat) (g : mm_M) (r0 : Nat) (x1 : Int32) (u0 : Nat) (t1 : Int32) : Option (Nat × Int32 × mm_M) :=
  mm_bd (f_Mo_refused n g u0 t1 0 0) 0 (fun z1 g2 => (if z1 = 0 then mm_ix x1 40 (mm_ix x1 40 (mm_ix x1 40 (mm_ix x1 40 (mm_ix x1 40 (mm_ix x1 40 (mm_bd (f_Mo_post n g2 r0 (g2 39 0 x1.toNatClampNeg) (g2 40 0 x1.toNatClampNeg) (g2 41 0 x1.toNatClampNeg) (g2 42 0 x1.toNatClampNeg) (g2 43 0 x1.toNatClampNeg) (g2 44 0 x1.toNatClampNeg)) 0 (fun z4 g5 => (if z4 = 0 then f_Mo_twin_b69 n g5 else f_Mo_twin_b70 n g5 1)))))))) else f_Mo_twin_b69 n g2))
set_option maxRecDepth 100000 in
set_option maxHeartbeats 4000000 in
theorem w_Mo_twin_b14 {p : Program} {l : Launch} {e : Env} {R : Room} {s : State} {m : MethodId} {args : Array Value} {below : List Frame} {meth : Method} {c : Code} {L : mm_L} {eo : Nat} {v : Int32} {g' : mm_M} {g : mm_M} {r0 : Nat} {x1 : Int32} {u0 : Nat} {t1 : Int32} {H : Heap} {locs : List Loc} {ls : Array Slot} (hX : mm_X L prog_9_method_31_code 2 "LoanArrowsModel" (some .boolean) 1 26 p l R s m meth c) (h : f_Mo_twin_b14 L.1 g r0 x1 u0 t1 = some (eo, v, g')) (hP : mm_P L g H) (hF : ∀ q ∈ locs, mm_F L q.base) (hl : lv_has ls 2 [(0, .ref (L.2.1 20 r0)), (1, .int x1)]) (hv_r0 : mm_lv L.1 20 r0) (hv_u0 : mm_lv L.1 20 u0) : W p l e R s m args below meth c H locs 0 0 (mm_Q below L s (mm_oi eo v) g') (F0 m 14 ls [.int t1, .ref (L.2.1 20 u0)]) := by
  have hX0 := hX
  obtain ⟨hx, hb, hml, hown, hr, hlk, hex, hRf, hRl, hRc, hRs, hJ, hK, hst, h00⟩ := hX0
  unfold f_Mo_twin_b14 at h
  refine lv_iconst (v := 0) hx hb d_Mo_twin_14 (by decide) ?_
  refine lv_iconst (v := 0) hx hb d_Mo_twin_15 (by decide) ?_
  rcases mm_bd_some h with ⟨z1, g2, hf3, h⟩ | ⟨xe, z1, g2, hf3, h⟩
  · refine mm_goR (v := (some (.int z1))) (mm_goV (As := [.int t1, .int 0, .int 0]) (rest := []) hX (c_Mo_refused hv_u0 hf3) yw_Mo_refused wt_713 wt_715 ws_0_13 hP hF (mm_recv (h := 20) (i := u0) hX hP hv_u0 rfl rfl) rfl hl.1 (Nat.le_of_ble_eq_true rfl) (by decide) (by decide) hRc hRs d_Mo_twin_16) hF (fun H locs hP hF _ => ?_)
    refine lv_if_ne (tgt := 69) hx hb d_Mo_twin_19 rfl (fun hc => ?_) (fun hc => ?_)
    · have h := mm_neg hc h
      exact w_Mo_twin_b69 hX h hP hF (lv_sub (l' := []) hl [] rfl)
    · have h := mm_pos hc h
      refine lv_aload_n hx hb d_Mo_twin_22 rfl (lv_at hl 0 rfl) ?_
      refine lv_aload_n hx hb d_Mo_twin_23 rfl (lv_at hl 0 rfl) ?_
      refine mm_get (h := 20) (i := r0) 21 hX hP hv_r0 rfl rfl uin_20 (by decide) ⟨rfl, rfl, rfl⟩ wt_633 rfl d_Mo_twin_24 ?_
      refine lv_iload_n hx hb d_Mo_twin_27 rfl (lv_at hl 1 rfl) ?_
      obtain ⟨hin, h⟩ := mm_ix_some h
      refine mm_iald (h := 39) (i := 0) hX hP mm_ls39 (fun _ => rfl) rfl hin d_Mo_twin_28 ?_
      refine lv_aload_n hx hb d_Mo_twin_29 rfl (lv_at hl 0 rfl) ?_
      refine mm_get (h := 20) (i := r0) 22 hX hP hv_r0 rfl rfl uin_20 (by decide) ⟨rfl, rfl, rfl⟩ wt_634 rfl d_Mo_twin_30 ?_
      refine lv_iload_n hx hb d_Mo_twin_33 rfl (lv_at hl 1 rfl) ?_
      obtain ⟨hin, h⟩ := mm_ix_some h
      refine mm_iald (h := 40) (i := 0) hX hP mm_ls40 (fun _ => rfl) rfl hin d_Mo_twin_34 ?_
      refine lv_aload_n hx hb d_Mo_twin_35 rfl (lv_at hl 0 rfl) ?_
      refine mm_get (h := 20) (i := r0) 23 hX hP hv_r0 rfl rfl uin_20 (by decide) ⟨rfl, rfl, rfl⟩ wt_635 rfl d_Mo_twin_36 ?_
      refine lv_iload_n hx hb d_Mo_twin_39 rfl (lv_at hl 1 rfl) ?_
      obtain ⟨hin, h⟩ := mm_ix_some h
      refine mm_iald (h := 41) (i := 0) hX hP mm_ls41 (fun _ => rfl) rfl hin d_Mo_twin_40 ?_
      refine lv_aload_n hx hb d_Mo_twin_41 rfl (lv_at hl 0 rfl) ?_
      refine mm_get (h := 20) (i := r0) 24 hX hP hv_r0 rfl rfl uin_20 (by decide) ⟨rfl, rfl, rfl⟩ wt_636 rfl d_Mo_twin_42 ?_
      refine lv_iload_n hx hb d_Mo_twin_45 rfl (lv_at hl 1 rfl) ?_
      obtain ⟨hin, h⟩ := mm_ix_some h
      refine mm_iald (h := 42) (i := 0) hX hP mm_ls42 (fun _ => rfl) rfl hin d_Mo_twin_46 ?_
      refine lv_aload_n hx hb d_Mo_twin_47 rfl (lv_at hl 0 rfl) ?_
      refine mm_get (h := 20) (i := r0) 25 hX hP hv_r0 rfl rfl uin_20 (by decide) ⟨rfl, rfl, rfl⟩ wt_637 rfl d_Mo_twin_48 ?_
      refine lv_iload_n hx hb d_Mo_twin_51 rfl (lv_at hl 1 rfl) ?_
      obtain ⟨hin, h⟩ := mm_ix_some h
      refine mm_iald (h := 43) (i := 0) hX hP mm_ls43 (fun _ => rfl) rfl hin d_Mo_twin_52 ?_
      refine lv_aload_n hx hb d_Mo_twin_53 rfl (lv_at hl 0 rfl) ?_
      refine mm_get (h := 20) (i := r0) 26 hX hP hv_r0 rfl rfl uin_20 (by decide) ⟨rfl, rfl, rfl⟩ wt_638 rfl d_Mo_twin_54 ?_
      refine lv_iload_n hx hb d_Mo_twin_57 rfl (lv_at hl 1 rfl) ?_
      obtain ⟨hin, h⟩ := mm_ix_some h
      refine mm_iald (h := 44) (i := 0) hX hP mm_ls44 (fun _ => rfl) rfl hin d_Mo_twin_58 ?_
      rcases mm_bd_some h with ⟨z4, g5, hf6, h⟩ | ⟨xe, z4, g5, hf6, h⟩
      · refine mm_goR (v := (some (.int z4))) (mm_goV (As := [.int (g2 39 0 x1.toNatClampNeg), .int (g2 40 0 x1.toNatClampNeg), .int (g2 41 0 x1.toNatClampNeg), .int (g2 42 0 x1.toNatClampNeg), .int (g2 43 0 x1.toNatClampNeg), .int (g2 44 0 x1.toNatClampNeg)]) (rest := []) hX (c_Mo_post hv_r0 hf6) yw_Mo_post wt_752 wt_754 ws_1_5 hP hF (mm_recv (h := 20) (i := r0) hX hP hv_r0 rfl rfl) rfl hl.1 (Nat.le_of_ble_eq_true rfl) (by decide) (by decide) hRc hRs d_Mo_twin_59) hF (fun H locs hP hF _ => ?_)
        refine lv_if_eq (tgt := 69) hx hb d_Mo_twin_62 rfl (fun hc => ?_) (fun hc => ?_)
        · have h := mm_pos hc h
          exact w_Mo_twin_b69 hX h hP hF (lv_sub (l' := []) hl [] rfl)
        · have h := mm_neg hc h
          refine lv_iconst (v := 1) hx hb d_Mo_twin_65 (by decide) ?_
          refine lv_goto (tgt := 70) hx hb d_Mo_twin_66 rfl ?_
          exact w_Mo_twin_b70 hX h hP hF (lv_sub (l' := []) hl [] rfl)
      · cases h
        exact mm_goT (x := xe + 1) (mm_goV (As := [.int (g2 39 0 x1.toNatClampNeg), .int (g2 40 0 x1.toNatClampNeg), .int (g2 41 0 x1.toNatClampNeg), .int (g2 42 0 x1.toNatClampNeg), .int (g2 43 0 x1.toNatClampNeg), .int (g2 44 0 x1.toNatClampNeg)]) (rest := []) hX (c_Mo_post hv_r0 hf6) yw_Mo_post wt_752 wt_754 ws_1_5 hP hF (mm_recv (h := 20) (i := r0) hX hP hv_r0 rfl rfl) rfl hl.1 (Nat.le_of_ble_eq_true rfl) (by decide) (by decide) hRc hRs d_Mo_twin_59) hF hex hlk
  · cases h
    exact mm_goT (x := xe + 1) (mm_goV (As := [.int t1, .int 0, .int 0]) (rest := []) hX (c_Mo_refused hv_u0 hf3) yw_Mo_refused wt_713 wt_715 ws_0_13 hP hF (mm_recv (h := 20) (i := u0) hX hP hv_u0 rfl rfl) rfl hl.1 (Nat.le_of_ble_eq_true rfl) (by decide) (by decide) hRc hRs d_Mo_twin_16) hF hex hlk
def f_Mo_twin (n : Nat) (g : mm_M) (r0 : Nat) (x1 : Int32) : Option (Nat × Int32 × mm_M) :=
  mm_bd (f_Mo_isPacket n g r0 x1) 0 (fun z1 g2 => (if z1 = 0 then f_Mo_twin_b14 n g2 r0 x1 r0 1 else f_Mo_twin_b14 n g2 r0 x1 r0 0))
set_option maxRecDepth 100000 in
set_option maxHeartbeats 4000000 in
theorem w_Mo_twin {p : Program} {l : Launch} {e : Env} {R : Room} {s : State} {m : MethodId} {args : Array Value} {below : List Frame} {meth : Method} {c : Code} {L : mm_L} {eo : Nat} {v : Int32} {g' : mm_M} {g : mm_M} {r0 : Nat} {x1 : Int32} {H : Heap} {locs : List Loc} {ls : Array Slot} (hX : mm_X L prog_9_method_31_code 2 "LoanArrowsModel" (some .boolean) 1 26 p l R s m meth c) (h : f_Mo_twin L.1 g r0 x1 = some (eo, v, g')) (hP : mm_P L g H) (hF : ∀ q ∈ locs, mm_F L q.base) (hl : lv_has ls 2 [(0, .ref (L.2.1 20 r0)), (1, .int x1)]) (hv_r0 : mm_lv L.1 20 r0) : W p l e R s m args below meth c H locs 0 0 (mm_Q below L s (mm_oi eo v) g') (F0 m 0 ls []) := by
  have hX0 := hX
  obtain ⟨hx, hb, hml, hown, hr, hlk, hex, hRf, hRl, hRc, hRs, hJ, hK, hst, h00⟩ := hX0
  unfold f_Mo_twin at h
  refine lv_aload_n hx hb d_Mo_twin_0 rfl (lv_at hl 0 rfl) ?_
  refine lv_aload_n hx hb d_Mo_twin_1 rfl (lv_at hl 0 rfl) ?_
  refine lv_iload_n hx hb d_Mo_twin_2 rfl (lv_at hl 1 rfl) ?_
  rcases mm_bd_some h with ⟨z1, g2, hf3, h⟩ | ⟨xe, z1, g2, hf3, h⟩
  · refine mm_goR (v := (some (.int z1))) (mm_goV (As := [.int x1]) (rest := [.ref (L.2.1 20 r0)]) hX (c_Mo_isPacket hv_r0 hf3) yw_Mo_isPacket wt_788 wt_790 ws_1_8 hP hF (mm_recv (h := 20) (i := r0) hX hP hv_r0 rfl rfl) rfl hl.1 (Nat.le_of_ble_eq_true rfl) (by decide) (by decide) hRc hRs d_Mo_twin_3) hF (fun H locs hP hF _ => ?_)
    refine lv_if_ne (tgt := 13) hx hb d_Mo_twin_6 rfl (fun hc => ?_) (fun hc => ?_)
    · have h := mm_neg hc h
      refine lv_iconst (v := 0) hx hb d_Mo_twin_13 (by decide) ?_
      exact w_Mo_twin_b14 hX h hP hF (lv_sub (l' := [(0, .ref (L.2.1 20 r0)), (1, .int x1)]) hl [0, 1] rfl) hv_r0 hv_r0
    · have h := mm_pos hc h
      refine lv_iconst (v := 1) hx hb d_Mo_twin_9 (by decide) ?_
      refine lv_goto (tgt := 14) hx hb d_Mo_twin_10 rfl ?_
      exact w_Mo_twin_b14 hX h hP hF (lv_sub (l' := [(0, .ref (L.2.1 20 r0)), (1, .int x1)]) hl [0, 1] rfl) hv_r0 hv_r0
  · cases h
    exact mm_goT (x := xe + 1) (mm_goV (As := [.int x1]) (rest := [.ref (L.2.1 20 r0)]) hX (c_Mo_isPacket hv_r0 hf3) yw_Mo_isPacket wt_788 wt_790 ws_1_8 hP hF (mm_recv (h := 20) (i := r0) hX hP hv_r0 rfl rfl) rfl hl.1 (Nat.le_of_ble_eq_true rfl) (by decide) (by decide) hRc hRs d_Mo_twin_3) hF hex hlk
set_option maxRecDepth 100000 in
set_option maxHeartbeats 4000000 in
theorem c_Mo_twin {l : Launch} {L : mm_L} {g g' : mm_M} {eo : Nat} {v : Int32} {r0 : Nat} {x1 : Int32} (hv_r0 : mm_lv L.1 20 r0) (h : f_Mo_twin L.1 g r0 x1 = some (eo, v, g')) : mm_C l y_Mo_twin prog_9_method_31_code 2 (some .boolean) 1 26 L [.ref (L.2.1 20 r0), .int x1] g (mm_oi eo v) g' := by
  intro p e R s m below meth c hX hP
  refine mm_enter (Nat.le_of_ble_eq_true rfl) fun ls hl => ?_
  exact w_Mo_twin hX h hP (fun q hq => by cases hq) (lv_sub (l' := [(0, .ref (L.2.1 20 r0)), (1, .int x1)]) hl [0, 1] rfl) hv_r0

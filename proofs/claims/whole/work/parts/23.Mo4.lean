def f_Mo_crash_b48 (n : Nat) (g : mm_M)  : Option (Nat × Int32 × mm_M) :=
  some (0, 0, g)
set_option maxRecDepth 100000 in
set_option maxHeartbeats 4000000 in
theorem w_Mo_crash_b48 {p : Program} {l : Launch} {e : Env} {R : Room} {s : State} {m : MethodId} {args : Array Value} {below : List Frame} {meth : Method} {c : Code} {L : mm_L} {eo : Nat} {v : Int32} {g' : mm_M} {g : mm_M} {H : Heap} {locs : List Loc} {ls : Array Slot} (hX : mm_X L prog_9_method_32_code 3 "LoanArrowsModel" none 1 23 p l R s m meth c) (h : f_Mo_crash_b48 L.1 g = some (eo, v, g')) (hP : mm_P L g H) (hF : ∀ q ∈ locs, mm_F L q.base) (hl : lv_has ls 3 []) : W p l e R s m args below meth c H locs 0 0 (mm_Q below L s (mm_ov eo v) g') (F0 m 48 ls []) := by
  have hX0 := hX
  obtain ⟨hx, hb, hml, hown, hr, hlk, hex, hRf, hRl, hRc, hRs, hJ, hK, hst, h00⟩ := hX0
  unfold f_Mo_crash_b48 at h
  cases h
  exact mm_vret hx hb hr hlk hP hF d_Mo_crash_48
def f_Mo_crash_b34 (n : Nat) (g : mm_M) (r0 : Nat) (x1 : Int32) (u0 : Nat) (t1 : Int32) (t2 : Int32) : Option (Nat × Int32 × mm_M) :=
  mm_bd (f_Mo_refused n g u0 t1 t2 0) 0 (fun z1 g2 => (if z1 = 0 then mm_ix x1 12 (mm_let (mm_st g2 22 0 x1.toNatClampNeg (vp_nar .boolean 1)) (fun g4 => f_Mo_crash_b48 n g4)) else f_Mo_crash_b48 n g2))
set_option maxRecDepth 100000 in
set_option maxHeartbeats 4000000 in
theorem w_Mo_crash_b34 {p : Program} {l : Launch} {e : Env} {R : Room} {s : State} {m : MethodId} {args : Array Value} {below : List Frame} {meth : Method} {c : Code} {L : mm_L} {eo : Nat} {v : Int32} {g' : mm_M} {g : mm_M} {r0 : Nat} {x1 : Int32} {u0 : Nat} {t1 : Int32} {t2 : Int32} {H : Heap} {locs : List Loc} {ls : Array Slot} (hX : mm_X L prog_9_method_32_code 3 "LoanArrowsModel" none 1 23 p l R s m meth c) (h : f_Mo_crash_b34 L.1 g r0 x1 u0 t1 t2 = some (eo, v, g')) (hP : mm_P L g H) (hF : ∀ q ∈ locs, mm_F L q.base) (hl : lv_has ls 3 [(0, .ref (L.2.1 20 r0)), (1, .int x1)]) (hv_r0 : mm_lv L.1 20 r0) (hv_u0 : mm_lv L.1 20 u0) : W p l e R s m args below meth c H locs 0 0 (mm_Q below L s (mm_ov eo v) g') (F0 m 34 ls [.int t2, .int t1, .ref (L.2.1 20 u0)]) := by
  have hX0 := hX
  obtain ⟨hx, hb, hml, hown, hr, hlk, hex, hRf, hRl, hRc, hRs, hJ, hK, hst, h00⟩ := hX0
  unfold f_Mo_crash_b34 at h
  refine lv_iconst (v := 0) hx hb d_Mo_crash_34 (by decide) ?_
  rcases mm_bd_some h with ⟨z1, g2, hf3, h⟩ | ⟨xe, z1, g2, hf3, h⟩
  · refine mm_goR (v := (some (.int z1))) (mm_goV (As := [.int t1, .int t2, .int 0]) (rest := []) hX (c_Mo_refused hv_u0 hf3) yw_Mo_refused wt_713 wt_715 ws_0_13 hP hF (mm_recv (h := 20) (i := u0) hX hP hv_u0 rfl rfl) rfl hl.1 (Nat.le_of_ble_eq_true rfl) (by decide) (by decide) hRc hRs d_Mo_crash_35) hF (fun H locs hP hF _ => ?_)
    refine lv_if_ne (tgt := 48) hx hb d_Mo_crash_38 rfl (fun hc => ?_) (fun hc => ?_)
    · have h := mm_neg hc h
      exact w_Mo_crash_b48 hX h hP hF (lv_sub (l' := []) hl [] rfl)
    · have h := mm_pos hc h
      refine lv_aload_n hx hb d_Mo_crash_41 rfl (lv_at hl 0 rfl) ?_
      refine mm_get (h := 20) (i := r0) 3 hX hP hv_r0 rfl rfl uin_20 (by decide) ⟨rfl, rfl, rfl⟩ wt_615 rfl d_Mo_crash_42 ?_
      refine lv_iload_n hx hb d_Mo_crash_45 rfl (lv_at hl 1 rfl) ?_
      refine lv_iconst (v := 1) hx hb d_Mo_crash_46 (by decide) ?_
      obtain ⟨hin, h⟩ := mm_ix_some h
      refine mm_zast (h := 22) (i := 0) hX hP hF mm_ls22 (fun _ => rfl) rfl hin d_Mo_crash_47 (fun H locs hP hF => ?_)
      obtain ⟨g4, e5, h⟩ := mm_let_ex h
      have hP : mm_P L g4 H := by rw [e5]; exact hP
      exact w_Mo_crash_b48 hX h hP hF (lv_sub (l' := []) hl [] rfl)
  · cases h
    exact mm_goT (x := xe + 1) (mm_goV (As := [.int t1, .int t2, .int 0]) (rest := []) hX (c_Mo_refused hv_u0 hf3) yw_Mo_refused wt_713 wt_715 ws_0_13 hP hF (mm_recv (h := 20) (i := u0) hX hP hv_u0 rfl rfl) rfl hl.1 (Nat.le_of_ble_eq_true rfl) (by decide) (by decide) hRc hRs d_Mo_crash_35) hF hex hlk
def f_Mo_crash_b33 (n : Nat) (g : mm_M) (r0 : Nat) (x1 : Int32) (u0 : Nat) (t1 : Int32) : Option (Nat × Int32 × mm_M) :=
  f_Mo_crash_b34 n g r0 x1 u0 t1 0
set_option maxRecDepth 100000 in
set_option maxHeartbeats 4000000 in
theorem w_Mo_crash_b33 {p : Program} {l : Launch} {e : Env} {R : Room} {s : State} {m : MethodId} {args : Array Value} {below : List Frame} {meth : Method} {c : Code} {L : mm_L} {eo : Nat} {v : Int32} {g' : mm_M} {g : mm_M} {r0 : Nat} {x1 : Int32} {u0 : Nat} {t1 : Int32} {H : Heap} {locs : List Loc} {ls : Array Slot} (hX : mm_X L prog_9_method_32_code 3 "LoanArrowsModel" none 1 23 p l R s m meth c) (h : f_Mo_crash_b33 L.1 g r0 x1 u0 t1 = some (eo, v, g')) (hP : mm_P L g H) (hF : ∀ q ∈ locs, mm_F L q.base) (hl : lv_has ls 3 [(0, .ref (L.2.1 20 r0)), (1, .int x1)]) (hv_r0 : mm_lv L.1 20 r0) (hv_u0 : mm_lv L.1 20 u0) : W p l e R s m args below meth c H locs 0 0 (mm_Q below L s (mm_ov eo v) g') (F0 m 33 ls [.int t1, .ref (L.2.1 20 u0)]) := by
  have hX0 := hX
  obtain ⟨hx, hb, hml, hown, hr, hlk, hex, hRf, hRl, hRc, hRs, hJ, hK, hst, h00⟩ := hX0
  unfold f_Mo_crash_b33 at h
  refine lv_iconst (v := 0) hx hb d_Mo_crash_33 (by decide) ?_
  exact w_Mo_crash_b34 hX h hP hF (lv_sub (l' := [(0, .ref (L.2.1 20 r0)), (1, .int x1)]) hl [0, 1] rfl) hv_r0 hv_u0
def f_Mo_crash_b13 (n : Nat) (g : mm_M) (r0 : Nat) (x1 : Int32) (t0 : Int32) : Option (Nat × Int32 × mm_M) :=
  (if t0 = 0 then mm_ix x1 12 ((if (g 22 0 x1.toNatClampNeg) = 0 then f_Mo_crash_b33 n g r0 x1 r0 t0 else f_Mo_crash_b34 n g r0 x1 r0 t0 1)) else f_Mo_crash_b33 n g r0 x1 r0 t0)
set_option maxRecDepth 100000 in
set_option maxHeartbeats 4000000 in
theorem w_Mo_crash_b13 {p : Program} {l : Launch} {e : Env} {R : Room} {s : State} {m : MethodId} {args : Array Value} {below : List Frame} {meth : Method} {c : Code} {L : mm_L} {eo : Nat} {v : Int32} {g' : mm_M} {g : mm_M} {r0 : Nat} {x1 : Int32} {t0 : Int32} {H : Heap} {locs : List Loc} {ls : Array Slot} (hX : mm_X L prog_9_method_32_code 3 "LoanArrowsModel" none 1 23 p l R s m meth c) (h : f_Mo_crash_b13 L.1 g r0 x1 t0 = some (eo, v, g')) (hP : mm_P L g H) (hF : ∀ q ∈ locs, mm_F L q.base) (hl : lv_has ls 3 [(0, .ref (L.2.1 20 r0)), (1, .int x1)]) (hv_r0 : mm_lv L.1 20 r0) : W p l e R s m args below meth c H locs 0 0 (mm_Q below L s (mm_ov eo v) g') (F0 m 13 ls [.int t0]) := by
  have hX0 := hX
  obtain ⟨hx, hb, hml, hown, hr, hlk, hex, hRf, hRl, hRc, hRs, hJ, hK, hst, h00⟩ := hX0
  unfold f_Mo_crash_b13 at h
  refine lv_istore_n hx hb d_Mo_crash_13 rfl hl (Nat.lt_of_lt_of_le (Nat.lt_succ_self _) (Nat.le_of_ble_eq_true rfl)) rfl (fun ls hl => ?_)
  have hl : lv_has ls 3 [(2, .int t0), (0, .ref (L.2.1 20 r0)), (1, .int x1)] := hl
  refine lv_aload_n hx hb d_Mo_crash_14 rfl (lv_at hl 1 rfl) ?_
  refine lv_iload_n hx hb d_Mo_crash_15 rfl (lv_at hl 0 rfl) ?_
  refine lv_iload_n hx hb d_Mo_crash_16 rfl (lv_at hl 0 rfl) ?_
  refine lv_if_ne (tgt := 33) hx hb d_Mo_crash_17 rfl (fun hc => ?_) (fun hc => ?_)
  · have h := mm_neg hc h
    exact w_Mo_crash_b33 hX h hP hF (lv_sub (l' := [(0, .ref (L.2.1 20 r0)), (1, .int x1)]) hl [1, 2] rfl) hv_r0 hv_r0
  · have h := mm_pos hc h
    refine lv_aload_n hx hb d_Mo_crash_20 rfl (lv_at hl 1 rfl) ?_
    refine mm_get (h := 20) (i := r0) 3 hX hP hv_r0 rfl rfl uin_20 (by decide) ⟨rfl, rfl, rfl⟩ wt_615 rfl d_Mo_crash_21 ?_
    refine lv_iload_n hx hb d_Mo_crash_24 rfl (lv_at hl 2 rfl) ?_
    obtain ⟨hin, h⟩ := mm_ix_some h
    refine mm_zald (h := 22) (i := 0) hX hP mm_ls22 (fun _ => rfl) rfl hin d_Mo_crash_25 ?_
    refine lv_if_eq (tgt := 33) hx hb d_Mo_crash_26 rfl (fun hc => ?_) (fun hc => ?_)
    · have h := mm_pos hc h
      exact w_Mo_crash_b33 hX h hP hF (lv_sub (l' := [(0, .ref (L.2.1 20 r0)), (1, .int x1)]) hl [1, 2] rfl) hv_r0 hv_r0
    · have h := mm_neg hc h
      refine lv_iconst (v := 1) hx hb d_Mo_crash_29 (by decide) ?_
      refine lv_goto (tgt := 34) hx hb d_Mo_crash_30 rfl ?_
      exact w_Mo_crash_b34 hX h hP hF (lv_sub (l' := [(0, .ref (L.2.1 20 r0)), (1, .int x1)]) hl [1, 2] rfl) hv_r0 hv_r0
def f_Mo_crash (n : Nat) (g : mm_M) (r0 : Nat) (x1 : Int32) : Option (Nat × Int32 × mm_M) :=
  mm_bd (f_Mo_isLibrary n g r0 x1) 0 (fun z1 g2 => (if z1 = 0 then f_Mo_crash_b13 n g2 r0 x1 1 else f_Mo_crash_b13 n g2 r0 x1 0))
set_option maxRecDepth 100000 in
set_option maxHeartbeats 4000000 in
theorem w_Mo_crash {p : Program} {l : Launch} {e : Env} {R : Room} {s : State} {m : MethodId} {args : Array Value} {below : List Frame} {meth : Method} {c : Code} {L : mm_L} {eo : Nat} {v : Int32} {g' : mm_M} {g : mm_M} {r0 : Nat} {x1 : Int32} {H : Heap} {locs : List Loc} {ls : Array Slot} (hX : mm_X L prog_9_method_32_code 3 "LoanArrowsModel" none 1 23 p l R s m meth c) (h : f_Mo_crash L.1 g r0 x1 = some (eo, v, g')) (hP : mm_P L g H) (hF : ∀ q ∈ locs, mm_F L q.base) (hl : lv_has ls 3 [(0, .ref (L.2.1 20 r0)), (1, .int x1)]) (hv_r0 : mm_lv L.1 20 r0) : W p l e R s m args below meth c H locs 0 0 (mm_Q below L s (mm_ov eo v) g') (F0 m 0 ls []) := by
  have hX0 := hX
  obtain ⟨hx, hb, hml, hown, hr, hlk, hex, hRf, hRl, hRc, hRs, hJ, hK, hst, h00⟩ := hX0
  unfold f_Mo_crash at h
  refine lv_aload_n hx hb d_Mo_crash_0 rfl (lv_at hl 0 rfl) ?_
  refine lv_iload_n hx hb d_Mo_crash_1 rfl (lv_at hl 1 rfl) ?_
  rcases mm_bd_some h with ⟨z1, g2, hf3, h⟩ | ⟨xe, z1, g2, hf3, h⟩
  · refine mm_goR (v := (some (.int z1))) (mm_goV (As := [.int x1]) (rest := []) hX (c_Mo_isLibrary hv_r0 hf3) yw_Mo_isLibrary wt_706 wt_708 ws_0_12 hP hF (mm_recv (h := 20) (i := r0) hX hP hv_r0 rfl rfl) rfl hl.1 (Nat.le_of_ble_eq_true rfl) (by decide) (by decide) hRc hRs d_Mo_crash_2) hF (fun H locs hP hF _ => ?_)
    refine lv_if_ne (tgt := 12) hx hb d_Mo_crash_5 rfl (fun hc => ?_) (fun hc => ?_)
    · have h := mm_neg hc h
      refine lv_iconst (v := 0) hx hb d_Mo_crash_12 (by decide) ?_
      exact w_Mo_crash_b13 hX h hP hF (lv_sub (l' := [(0, .ref (L.2.1 20 r0)), (1, .int x1)]) hl [0, 1] rfl) hv_r0
    · have h := mm_pos hc h
      refine lv_iconst (v := 1) hx hb d_Mo_crash_8 (by decide) ?_
      refine lv_goto (tgt := 13) hx hb d_Mo_crash_9 rfl ?_
      exact w_Mo_crash_b13 hX h hP hF (lv_sub (l' := [(0, .ref (L.2.1 20 r0)), (1, .int x1)]) hl [0, 1] rfl) hv_r0
  · cases h
    exact mm_goT (x := xe + 1) (mm_goV (As := [.int x1]) (rest := []) hX (c_Mo_isLibrary hv_r0 hf3) yw_Mo_isLibrary wt_706 wt_708 ws_0_12 hP hF (mm_recv (h := 20) (i := r0) hX hP hv_r0 rfl rfl) rfl hl.1 (Nat.le_of_ble_eq_true rfl) (by decide) (by decide) hRc hRs d_Mo_crash_2) hF hex hlk
set_option maxRecDepth 100000 in
set_option maxHeartbeats 4000000 in
theorem c_Mo_crash {l : Launch} {L : mm_L} {g g' : mm_M} {eo : Nat} {v : Int32} {r0 : Nat} {x1 : Int32} (hv_r0 : mm_lv L.1 20 r0) (h : f_Mo_crash L.1 g r0 x1 = some (eo, v, g')) : mm_C l y_Mo_crash prog_9_method_32_code 3 none 1 23 L [.ref (L.2.1 20 r0), .int x1] g (mm_ov eo v) g' := by
  intro p e R s m below meth c hX hP
  refine mm_enter (Nat.le_of_ble_eq_true rfl) fun ls hl => ?_
  exact w_Mo_crash hX h hP (fun q hq => by cases hq) (lv_sub (l' := [(0, .ref (L.2.1 20 r0)), (1, .int x1)]) hl [0, 1] rfl) hv_r0
def f_Mo_restart_b34 (n : Nat) (g : mm_M) (r0 : Nat) (x1 : Int32) (u0 : Nat) (t1 : Int32) (t2 : Int32) : Option (Nat × Int32 × mm_M) :=
  mm_bd (f_Mo_refused n g u0 t1 t2 0) 0 (fun z1 g2 => (if z1 = 0 then mm_ix x1 12 (mm_let (mm_st g2 22 0 x1.toNatClampNeg (vp_nar .boolean 0)) (fun g4 => mm_bd (f_Mo_sendFirsts n g4 r0 x1) 0 (fun z6 g7 => some (0, z6, g7)))) else some (0, 0, g2)))
set_option maxRecDepth 100000 in
set_option maxHeartbeats 4000000 in
theorem w_Mo_restart_b34 {p : Program} {l : Launch} {e : Env} {R : Room} {s : State} {m : MethodId} {args : Array Value} {below : List Frame} {meth : Method} {c : Code} {L : mm_L} {eo : Nat} {v : Int32} {g' : mm_M} {g : mm_M} {r0 : Nat} {x1 : Int32} {u0 : Nat} {t1 : Int32} {t2 : Int32} {H : Heap} {locs : List Loc} {ls : Array Slot} (hX : mm_X L prog_9_method_33_code 3 "LoanArrowsModel" (some .int) 3 74 p l R s m meth c) (h : f_Mo_restart_b34 L.1 g r0 x1 u0 t1 t2 = some (eo, v, g')) (hP : mm_P L g H) (hF : ∀ q ∈ locs, mm_F L q.base) (hl : lv_has ls 3 [(0, .ref (L.2.1 20 r0)), (1, .int x1)]) (hv_r0 : mm_lv L.1 20 r0) (hv_u0 : mm_lv L.1 20 u0) : W p l e R s m args below meth c H locs 0 0 (mm_Q below L s (mm_oi eo v) g') (F0 m 34 ls [.int t2, .int t1, .ref (L.2.1 20 u0)]) := by
  have hX0 := hX
  obtain ⟨hx, hb, hml, hown, hr, hlk, hex, hRf, hRl, hRc, hRs, hJ, hK, hst, h00⟩ := hX0
  unfold f_Mo_restart_b34 at h
  refine lv_iconst (v := 0) hx hb d_Mo_restart_34 (by decide) ?_
  rcases mm_bd_some h with ⟨z1, g2, hf3, h⟩ | ⟨xe, z1, g2, hf3, h⟩
  · refine mm_goR (v := (some (.int z1))) (mm_goV (As := [.int t1, .int t2, .int 0]) (rest := []) hX (c_Mo_refused hv_u0 hf3) yw_Mo_refused wt_713 wt_715 ws_0_13 hP hF (mm_recv (h := 20) (i := u0) hX hP hv_u0 rfl rfl) rfl hl.1 (Nat.le_of_ble_eq_true rfl) (by decide) (by decide) hRc hRs d_Mo_restart_35) hF (fun H locs hP hF _ => ?_)
    refine lv_if_eq (tgt := 43) hx hb d_Mo_restart_38 rfl (fun hc => ?_) (fun hc => ?_)
    · have h := mm_pos hc h
      refine lv_aload_n hx hb d_Mo_restart_43 rfl (lv_at hl 0 rfl) ?_
      refine mm_get (h := 20) (i := r0) 3 hX hP hv_r0 rfl rfl uin_20 (by decide) ⟨rfl, rfl, rfl⟩ wt_615 rfl d_Mo_restart_44 ?_
      refine lv_iload_n hx hb d_Mo_restart_47 rfl (lv_at hl 1 rfl) ?_
      refine lv_iconst (v := 0) hx hb d_Mo_restart_48 (by decide) ?_
      obtain ⟨hin, h⟩ := mm_ix_some h
      refine mm_zast (h := 22) (i := 0) hX hP hF mm_ls22 (fun _ => rfl) rfl hin d_Mo_restart_49 (fun H locs hP hF => ?_)
      obtain ⟨g4, e5, h⟩ := mm_let_ex h
      have hP : mm_P L g4 H := by rw [e5]; exact hP
      refine lv_aload_n hx hb d_Mo_restart_50 rfl (lv_at hl 0 rfl) ?_
      refine lv_iload_n hx hb d_Mo_restart_51 rfl (lv_at hl 1 rfl) ?_
      rcases mm_bd_some h with ⟨z6, g7, hf8, h⟩ | ⟨xe, z6, g7, hf8, h⟩
      · refine mm_goR (v := (some (.int z6))) (mm_goV (As := [.int x1]) (rest := []) hX (c_Mo_sendFirsts hv_r0 hf8) yw_Mo_sendFirsts wt_776 wt_778 ws_1_7 hP hF (mm_recv (h := 20) (i := r0) hX hP hv_r0 rfl rfl) rfl hl.1 (Nat.le_of_ble_eq_true rfl) (by decide) (by decide) hRc hRs d_Mo_restart_52) hF (fun H locs hP hF _ => ?_)
        cases h
        exact mm_iret hx hb hr hlk hP hF d_Mo_restart_55
      · cases h
        exact mm_goT (x := xe + 1) (mm_goV (As := [.int x1]) (rest := []) hX (c_Mo_sendFirsts hv_r0 hf8) yw_Mo_sendFirsts wt_776 wt_778 ws_1_7 hP hF (mm_recv (h := 20) (i := r0) hX hP hv_r0 rfl rfl) rfl hl.1 (Nat.le_of_ble_eq_true rfl) (by decide) (by decide) hRc hRs d_Mo_restart_52) hF hex hlk
    · have h := mm_neg hc h
      refine lv_iconst (v := 0) hx hb d_Mo_restart_41 (by decide) ?_
      cases h
      exact mm_iret hx hb hr hlk hP hF d_Mo_restart_42
  · cases h
    exact mm_goT (x := xe + 1) (mm_goV (As := [.int t1, .int t2, .int 0]) (rest := []) hX (c_Mo_refused hv_u0 hf3) yw_Mo_refused wt_713 wt_715 ws_0_13 hP hF (mm_recv (h := 20) (i := u0) hX hP hv_u0 rfl rfl) rfl hl.1 (Nat.le_of_ble_eq_true rfl) (by decide) (by decide) hRc hRs d_Mo_restart_35) hF hex hlk
def f_Mo_restart_b33 (n : Nat) (g : mm_M) (r0 : Nat) (x1 : Int32) (u0 : Nat) (t1 : Int32) : Option (Nat × Int32 × mm_M) :=
  f_Mo_restart_b34 n g r0 x1 u0 t1 0
set_option maxRecDepth 100000 in
set_option maxHeartbeats 4000000 in
theorem w_Mo_restart_b33 {p : Program} {l : Launch} {e : Env} {R : Room} {s : State} {m : MethodId} {args : Array Value} {below : List Frame} {meth : Method} {c : Code} {L : mm_L} {eo : Nat} {v : Int32} {g' : mm_M} {g : mm_M} {r0 : Nat} {x1 : Int32} {u0 : Nat} {t1 : Int32} {H : Heap} {locs : List Loc} {ls : Array Slot} (hX : mm_X L prog_9_method_33_code 3 "LoanArrowsModel" (some .int) 3 74 p l R s m meth c) (h : f_Mo_restart_b33 L.1 g r0 x1 u0 t1 = some (eo, v, g')) (hP : mm_P L g H) (hF : ∀ q ∈ locs, mm_F L q.base) (hl : lv_has ls 3 [(0, .ref (L.2.1 20 r0)), (1, .int x1)]) (hv_r0 : mm_lv L.1 20 r0) (hv_u0 : mm_lv L.1 20 u0) : W p l e R s m args below meth c H locs 0 0 (mm_Q below L s (mm_oi eo v) g') (F0 m 33 ls [.int t1, .ref (L.2.1 20 u0)]) := by
  have hX0 := hX
  obtain ⟨hx, hb, hml, hown, hr, hlk, hex, hRf, hRl, hRc, hRs, hJ, hK, hst, h00⟩ := hX0
  unfold f_Mo_restart_b33 at h
  refine lv_iconst (v := 0) hx hb d_Mo_restart_33 (by decide) ?_
  exact w_Mo_restart_b34 hX h hP hF (lv_sub (l' := [(0, .ref (L.2.1 20 r0)), (1, .int x1)]) hl [0, 1] rfl) hv_r0 hv_u0
def f_Mo_restart_b13 (n : Nat) (g : mm_M) (r0 : Nat) (x1 : Int32) (t0 : Int32) : Option (Nat × Int32 × mm_M) :=
  (if t0 = 0 then mm_ix x1 12 ((if (g 22 0 x1.toNatClampNeg) = 0 then f_Mo_restart_b34 n g r0 x1 r0 t0 1 else f_Mo_restart_b33 n g r0 x1 r0 t0)) else f_Mo_restart_b33 n g r0 x1 r0 t0)
set_option maxRecDepth 100000 in
set_option maxHeartbeats 4000000 in
theorem w_Mo_restart_b13 {p : Program} {l : Launch} {e : Env} {R : Room} {s : State} {m : MethodId} {args : Array Value} {below : List Frame} {meth : Method} {c : Code} {L : mm_L} {eo : Nat} {v : Int32} {g' : mm_M} {g : mm_M} {r0 : Nat} {x1 : Int32} {t0 : Int32} {H : Heap} {locs : List Loc} {ls : Array Slot} (hX : mm_X L prog_9_method_33_code 3 "LoanArrowsModel" (some .int) 3 74 p l R s m meth c) (h : f_Mo_restart_b13 L.1 g r0 x1 t0 = some (eo, v, g')) (hP : mm_P L g H) (hF : ∀ q ∈ locs, mm_F L q.base) (hl : lv_has ls 3 [(0, .ref (L.2.1 20 r0)), (1, .int x1)]) (hv_r0 : mm_lv L.1 20 r0) : W p l e R s m args below meth c H locs 0 0 (mm_Q below L s (mm_oi eo v) g') (F0 m 13 ls [.int t0]) := by
  have hX0 := hX
  obtain ⟨hx, hb, hml, hown, hr, hlk, hex, hRf, hRl, hRc, hRs, hJ, hK, hst, h00⟩ := hX0
  unfold f_Mo_restart_b13 at h
  refine lv_istore_n hx hb d_Mo_restart_13 rfl hl (Nat.lt_of_lt_of_le (Nat.lt_succ_self _) (Nat.le_of_ble_eq_true rfl)) rfl (fun ls hl => ?_)
  have hl : lv_has ls 3 [(2, .int t0), (0, .ref (L.2.1 20 r0)), (1, .int x1)] := hl
  refine lv_aload_n hx hb d_Mo_restart_14 rfl (lv_at hl 1 rfl) ?_
  refine lv_iload_n hx hb d_Mo_restart_15 rfl (lv_at hl 0 rfl) ?_
  refine lv_iload_n hx hb d_Mo_restart_16 rfl (lv_at hl 0 rfl) ?_
  refine lv_if_ne (tgt := 33) hx hb d_Mo_restart_17 rfl (fun hc => ?_) (fun hc => ?_)
  · have h := mm_neg hc h
    exact w_Mo_restart_b33 hX h hP hF (lv_sub (l' := [(0, .ref (L.2.1 20 r0)), (1, .int x1)]) hl [1, 2] rfl) hv_r0 hv_r0
  · have h := mm_pos hc h
    refine lv_aload_n hx hb d_Mo_restart_20 rfl (lv_at hl 1 rfl) ?_
    refine mm_get (h := 20) (i := r0) 3 hX hP hv_r0 rfl rfl uin_20 (by decide) ⟨rfl, rfl, rfl⟩ wt_615 rfl d_Mo_restart_21 ?_
    refine lv_iload_n hx hb d_Mo_restart_24 rfl (lv_at hl 2 rfl) ?_
    obtain ⟨hin, h⟩ := mm_ix_some h
    refine mm_zald (h := 22) (i := 0) hX hP mm_ls22 (fun _ => rfl) rfl hin d_Mo_restart_25 ?_
    refine lv_if_ne (tgt := 33) hx hb d_Mo_restart_26 rfl (fun hc => ?_) (fun hc => ?_)
    · have h := mm_neg hc h
      exact w_Mo_restart_b33 hX h hP hF (lv_sub (l' := [(0, .ref (L.2.1 20 r0)), (1, .int x1)]) hl [1, 2] rfl) hv_r0 hv_r0
    · have h := mm_pos hc h
      refine lv_iconst (v := 1) hx hb d_Mo_restart_29 (by decide) ?_
      refine lv_goto (tgt := 34) hx hb d_Mo_restart_30 rfl ?_
      exact w_Mo_restart_b34 hX h hP hF (lv_sub (l' := [(0, .ref (L.2.1 20 r0)), (1, .int x1)]) hl [1, 2] rfl) hv_r0 hv_r0
def f_Mo_restart (n : Nat) (g : mm_M) (r0 : Nat) (x1 : Int32) : Option (Nat × Int32 × mm_M) :=
  mm_bd (f_Mo_isLibrary n g r0 x1) 0 (fun z1 g2 => (if z1 = 0 then f_Mo_restart_b13 n g2 r0 x1 1 else f_Mo_restart_b13 n g2 r0 x1 0))
set_option maxRecDepth 100000 in
set_option maxHeartbeats 4000000 in
theorem w_Mo_restart {p : Program} {l : Launch} {e : Env} {R : Room} {s : State} {m : MethodId} {args : Array Value} {below : List Frame} {meth : Method} {c : Code} {L : mm_L} {eo : Nat} {v : Int32} {g' : mm_M} {g : mm_M} {r0 : Nat} {x1 : Int32} {H : Heap} {locs : List Loc} {ls : Array Slot} (hX : mm_X L prog_9_method_33_code 3 "LoanArrowsModel" (some .int) 3 74 p l R s m meth c) (h : f_Mo_restart L.1 g r0 x1 = some (eo, v, g')) (hP : mm_P L g H) (hF : ∀ q ∈ locs, mm_F L q.base) (hl : lv_has ls 3 [(0, .ref (L.2.1 20 r0)), (1, .int x1)]) (hv_r0 : mm_lv L.1 20 r0) : W p l e R s m args below meth c H locs 0 0 (mm_Q below L s (mm_oi eo v) g') (F0 m 0 ls []) := by
  have hX0 := hX
  obtain ⟨hx, hb, hml, hown, hr, hlk, hex, hRf, hRl, hRc, hRs, hJ, hK, hst, h00⟩ := hX0
  unfold f_Mo_restart at h
  refine lv_aload_n hx hb d_Mo_restart_0 rfl (lv_at hl 0 rfl) ?_
  refine lv_iload_n hx hb d_Mo_restart_1 rfl (lv_at hl 1 rfl) ?_
  rcases mm_bd_some h with ⟨z1, g2, hf3, h⟩ | ⟨xe, z1, g2, hf3, h⟩
  · refine mm_goR (v := (some (.int z1))) (mm_goV (As := [.int x1]) (rest := []) hX (c_Mo_isLibrary hv_r0 hf3) yw_Mo_isLibrary wt_706 wt_708 ws_0_12 hP hF (mm_recv (h := 20) (i := r0) hX hP hv_r0 rfl rfl) rfl hl.1 (Nat.le_of_ble_eq_true rfl) (by decide) (by decide) hRc hRs d_Mo_restart_2) hF (fun H locs hP hF _ => ?_)
    refine lv_if_ne (tgt := 12) hx hb d_Mo_restart_5 rfl (fun hc => ?_) (fun hc => ?_)
    · have h := mm_neg hc h
      refine lv_iconst (v := 0) hx hb d_Mo_restart_12 (by decide) ?_
      exact w_Mo_restart_b13 hX h hP hF (lv_sub (l' := [(0, .ref (L.2.1 20 r0)), (1, .int x1)]) hl [0, 1] rfl) hv_r0
    · have h := mm_pos hc h
      refine lv_iconst (v := 1) hx hb d_Mo_restart_8 (by decide) ?_
      refine lv_goto (tgt := 13) hx hb d_Mo_restart_9 rfl ?_
      exact w_Mo_restart_b13 hX h hP hF (lv_sub (l' := [(0, .ref (L.2.1 20 r0)), (1, .int x1)]) hl [0, 1] rfl) hv_r0
  · cases h
    exact mm_goT (x := xe + 1) (mm_goV (As := [.int x1]) (rest := []) hX (c_Mo_isLibrary hv_r0 hf3) yw_Mo_isLibrary wt_706 wt_708 ws_0_12 hP hF (mm_recv (h := 20) (i := r0) hX hP hv_r0 rfl rfl) rfl hl.1 (Nat.le_of_ble_eq_true rfl) (by decide) (by decide) hRc hRs d_Mo_restart_2) hF hex hlk
set_option maxRecDepth 100000 in
set_option maxHeartbeats 4000000 in
theorem c_Mo_restart {l : Launch} {L : mm_L} {g g' : mm_M} {eo : Nat} {v : Int32} {r0 : Nat} {x1 : Int32} (hv_r0 : mm_lv L.1 20 r0) (h : f_Mo_restart L.1 g r0 x1 = some (eo, v, g')) : mm_C l y_Mo_restart prog_9_method_33_code 3 (some .int) 3 74 L [.ref (L.2.1 20 r0), .int x1] g (mm_oi eo v) g' := by
  intro p e R s m below meth c hX hP
  refine mm_enter (Nat.le_of_ble_eq_true rfl) fun ls hl => ?_
  exact w_Mo_restart hX h hP (fun q hq => by cases hq) (lv_sub (l' := [(0, .ref (L.2.1 20 r0)), (1, .int x1)]) hl [0, 1] rfl) hv_r0
def f_Mo_of1_b118 (n : Nat) (g : mm_M) (t0 : Int32) : Option (Nat × Int32 × mm_M) :=
  some (0, t0, g)
set_option maxRecDepth 100000 in
set_option maxHeartbeats 4000000 in
theorem w_Mo_of1_b118 {p : Program} {l : Launch} {e : Env} {R : Room} {s : State} {m : MethodId} {args : Array Value} {below : List Frame} {meth : Method} {c : Code} {L : mm_L} {eo : Nat} {v : Int32} {g' : mm_M} {g : mm_M} {t0 : Int32} {H : Heap} {locs : List Loc} {ls : Array Slot} (hX : mm_X L prog_9_method_34_code 5 "LoanArrowsModel" (some .int) 2 43 p l R s m meth c) (h : f_Mo_of1_b118 L.1 g t0 = some (eo, v, g')) (hP : mm_P L g H) (hF : ∀ q ∈ locs, mm_F L q.base) (hl : lv_has ls 5 []) : W p l e R s m args below meth c H locs 0 0 (mm_Q below L s (mm_oi eo v) g') (F0 m 118 ls [.int t0]) := by
  have hX0 := hX
  obtain ⟨hx, hb, hml, hown, hr, hlk, hex, hRf, hRl, hRc, hRs, hJ, hK, hst, h00⟩ := hX0
  unfold f_Mo_of1_b118 at h
  cases h
  exact mm_iret hx hb hr hlk hP hF d_Mo_of1_118
def f_Mo_of1_b24 (n : Nat) (g : mm_M) (r0 : Nat) (x1 : Int32) (x2 : Int32) (x3 : Int32) (u0 : Nat) (t1 : Int32) : Option (Nat × Int32 × mm_M) :=
  mm_bd (f_Mo_refused n g u0 t1 0 0) 0 (fun z1 g2 => (if z1 = 0 then mm_bd (f_Mo_at n g2 x1 x2) 0 (fun z4 g5 => mm_ix x2 3 ((if (g5 23 0 x2.toNatClampNeg) = 0 then some (0, (-1), g5) else (if x3 = 0 then mm_ix z4 36 (f_Mo_of1_b118 n g5 (g5 24 0 z4.toNatClampNeg)) else (if x3 = 1 then mm_ix z4 36 (f_Mo_of1_b118 n g5 (g5 25 0 z4.toNatClampNeg)) else (if x3 = 2 then mm_ix z4 36 (f_Mo_of1_b118 n g5 (g5 26 0 z4.toNatClampNeg)) else (if x3 = 3 then mm_ix z4 36 (f_Mo_of1_b118 n g5 (g5 28 0 z4.toNatClampNeg)) else mm_ix z4 36 (f_Mo_of1_b118 n g5 (g5 27 0 z4.toNatClampNeg))))))))) else some (0, 0, g2)))
set_option maxRecDepth 100000 in
set_option maxHeartbeats 4000000 in
theorem w_Mo_of1_b24 {p : Program} {l : Launch} {e : Env} {R : Room} {s : State} {m : MethodId} {args : Array Value} {below : List Frame} {meth : Method} {c : Code} {L : mm_L} {eo : Nat} {v : Int32} {g' : mm_M} {g : mm_M} {r0 : Nat} {x1 : Int32} {x2 : Int32} {x3 : Int32} {u0 : Nat} {t1 : Int32} {H : Heap} {locs : List Loc} {ls : Array Slot} (hX : mm_X L prog_9_method_34_code 5 "LoanArrowsModel" (some .int) 2 43 p l R s m meth c) (h : f_Mo_of1_b24 L.1 g r0 x1 x2 x3 u0 t1 = some (eo, v, g')) (hP : mm_P L g H) (hF : ∀ q ∈ locs, mm_F L q.base) (hl : lv_has ls 5 [(0, .ref (L.2.1 20 r0)), (1, .int x1), (2, .int x2), (3, .int x3)]) (hv_r0 : mm_lv L.1 20 r0) (hv_u0 : mm_lv L.1 20 u0) : W p l e R s m args below meth c H locs 0 0 (mm_Q below L s (mm_oi eo v) g') (F0 m 24 ls [.int t1, .ref (L.2.1 20 u0)]) := by
  have hX0 := hX
  obtain ⟨hx, hb, hml, hown, hr, hlk, hex, hRf, hRl, hRc, hRs, hJ, hK, hst, h00⟩ := hX0
  unfold f_Mo_of1_b24 at h
  refine lv_iconst (v := 0) hx hb d_Mo_of1_24 (by decide) ?_
  refine lv_iconst (v := 0) hx hb d_Mo_of1_25 (by decide) ?_
  rcases mm_bd_some h with ⟨z1, g2, hf3, h⟩ | ⟨xe, z1, g2, hf3, h⟩
  · refine mm_goR (v := (some (.int z1))) (mm_goV (As := [.int t1, .int 0, .int 0]) (rest := []) hX (c_Mo_refused hv_u0 hf3) yw_Mo_refused wt_713 wt_715 ws_0_13 hP hF (mm_recv (h := 20) (i := u0) hX hP hv_u0 rfl rfl) rfl hl.1 (Nat.le_of_ble_eq_true rfl) (by decide) (by decide) hRc hRs d_Mo_of1_26) hF (fun H locs hP hF _ => ?_)
    refine lv_if_eq (tgt := 34) hx hb d_Mo_of1_29 rfl (fun hc => ?_) (fun hc => ?_)
    · have h := mm_pos hc h
      refine lv_iload_n hx hb d_Mo_of1_34 rfl (lv_at hl 1 rfl) ?_
      refine lv_iload_n hx hb d_Mo_of1_35 rfl (lv_at hl 2 rfl) ?_
      rcases mm_bd_some h with ⟨z4, g5, hf6, h⟩ | ⟨xe, z4, g5, hf6, h⟩
      · refine mm_goR (v := (some (.int z4))) (mm_goS (As := [.int x1, .int x2]) (rest := []) hX (c_Mo_at hf6) yw_Mo_at wt_717 wt_718 wt_8 hP hF rfl hl.1 (Nat.le_of_ble_eq_true rfl) (by decide) (by decide) hRc hRs d_Mo_of1_36) hF (fun H locs hP hF _ => ?_)
        refine lv_istore hx hb d_Mo_of1_39 hl (Nat.lt_of_lt_of_le (Nat.lt_succ_self _) (Nat.le_of_ble_eq_true rfl)) rfl (fun ls hl => ?_)
        have hl : lv_has ls 5 [(4, .int z4), (0, .ref (L.2.1 20 r0)), (1, .int x1), (2, .int x2), (3, .int x3)] := hl
        refine lv_aload_n hx hb d_Mo_of1_41 rfl (lv_at hl 1 rfl) ?_
        refine mm_get (h := 20) (i := r0) 4 hX hP hv_r0 rfl rfl uin_20 (by decide) ⟨rfl, rfl, rfl⟩ wt_616 rfl d_Mo_of1_42 ?_
        refine lv_iload_n hx hb d_Mo_of1_45 rfl (lv_at hl 3 rfl) ?_
        obtain ⟨hin, h⟩ := mm_ix_some h
        refine mm_zald (h := 23) (i := 0) hX hP mm_ls23 (fun _ => rfl) rfl hin d_Mo_of1_46 ?_
        refine lv_if_ne (tgt := 52) hx hb d_Mo_of1_47 rfl (fun hc => ?_) (fun hc => ?_)
        · have h := mm_neg hc h
          refine lv_iload_n hx hb d_Mo_of1_52 rfl (lv_at hl 4 rfl) ?_
          refine lv_if_ne (tgt := 66) hx hb d_Mo_of1_53 rfl (fun hc => ?_) (fun hc => ?_)
          · have h := mm_neg hc h
            refine lv_iload_n hx hb d_Mo_of1_66 rfl (lv_at hl 4 rfl) ?_
            refine lv_iconst (v := 1) hx hb d_Mo_of1_67 (by decide) ?_
            refine lv_icmp_ne (tgt := 81) hx hb d_Mo_of1_68 rfl (fun hc => ?_) (fun hc => ?_)
            · have h := mm_neg hc h
              refine lv_iload_n hx hb d_Mo_of1_81 rfl (lv_at hl 4 rfl) ?_
              refine lv_iconst (v := 2) hx hb d_Mo_of1_82 (by decide) ?_
              refine lv_icmp_ne (tgt := 96) hx hb d_Mo_of1_83 rfl (fun hc => ?_) (fun hc => ?_)
              · have h := mm_neg hc h
                refine lv_iload_n hx hb d_Mo_of1_96 rfl (lv_at hl 4 rfl) ?_
                refine lv_iconst (v := 3) hx hb d_Mo_of1_97 (by decide) ?_
                refine lv_icmp_ne (tgt := 111) hx hb d_Mo_of1_98 rfl (fun hc => ?_) (fun hc => ?_)
                · have h := mm_neg hc h
                  refine lv_aload_n hx hb d_Mo_of1_111 rfl (lv_at hl 1 rfl) ?_
                  refine mm_get (h := 20) (i := r0) 8 hX hP hv_r0 rfl rfl uin_20 (by decide) ⟨rfl, rfl, rfl⟩ wt_620 rfl d_Mo_of1_112 ?_
                  refine lv_iload hx hb d_Mo_of1_115 (lv_at hl 0 rfl) ?_
                  obtain ⟨hin, h⟩ := mm_ix_some h
                  refine mm_iald (h := 27) (i := 0) hX hP mm_ls27 (fun _ => rfl) rfl hin d_Mo_of1_117 ?_
                  exact w_Mo_of1_b118 hX h hP hF (lv_sub (l' := []) hl [] rfl)
                · have h := mm_pos hc h
                  refine lv_aload_n hx hb d_Mo_of1_101 rfl (lv_at hl 1 rfl) ?_
                  refine mm_get (h := 20) (i := r0) 9 hX hP hv_r0 rfl rfl uin_20 (by decide) ⟨rfl, rfl, rfl⟩ wt_621 rfl d_Mo_of1_102 ?_
                  refine lv_iload hx hb d_Mo_of1_105 (lv_at hl 0 rfl) ?_
                  obtain ⟨hin, h⟩ := mm_ix_some h
                  refine mm_iald (h := 28) (i := 0) hX hP mm_ls28 (fun _ => rfl) rfl hin d_Mo_of1_107 ?_
                  refine lv_goto (tgt := 118) hx hb d_Mo_of1_108 rfl ?_
                  exact w_Mo_of1_b118 hX h hP hF (lv_sub (l' := []) hl [] rfl)
              · have h := mm_pos hc h
                refine lv_aload_n hx hb d_Mo_of1_86 rfl (lv_at hl 1 rfl) ?_
                refine mm_get (h := 20) (i := r0) 7 hX hP hv_r0 rfl rfl uin_20 (by decide) ⟨rfl, rfl, rfl⟩ wt_619 rfl d_Mo_of1_87 ?_
                refine lv_iload hx hb d_Mo_of1_90 (lv_at hl 0 rfl) ?_
                obtain ⟨hin, h⟩ := mm_ix_some h
                refine mm_iald (h := 26) (i := 0) hX hP mm_ls26 (fun _ => rfl) rfl hin d_Mo_of1_92 ?_
                refine lv_goto (tgt := 118) hx hb d_Mo_of1_93 rfl ?_
                exact w_Mo_of1_b118 hX h hP hF (lv_sub (l' := []) hl [] rfl)
            · have h := mm_pos hc h
              refine lv_aload_n hx hb d_Mo_of1_71 rfl (lv_at hl 1 rfl) ?_
              refine mm_get (h := 20) (i := r0) 6 hX hP hv_r0 rfl rfl uin_20 (by decide) ⟨rfl, rfl, rfl⟩ wt_618 rfl d_Mo_of1_72 ?_
              refine lv_iload hx hb d_Mo_of1_75 (lv_at hl 0 rfl) ?_
              obtain ⟨hin, h⟩ := mm_ix_some h
              refine mm_iald (h := 25) (i := 0) hX hP mm_ls25 (fun _ => rfl) rfl hin d_Mo_of1_77 ?_
              refine lv_goto (tgt := 118) hx hb d_Mo_of1_78 rfl ?_
              exact w_Mo_of1_b118 hX h hP hF (lv_sub (l' := []) hl [] rfl)
          · have h := mm_pos hc h
            refine lv_aload_n hx hb d_Mo_of1_56 rfl (lv_at hl 1 rfl) ?_
            refine mm_get (h := 20) (i := r0) 5 hX hP hv_r0 rfl rfl uin_20 (by decide) ⟨rfl, rfl, rfl⟩ wt_617 rfl d_Mo_of1_57 ?_
            refine lv_iload hx hb d_Mo_of1_60 (lv_at hl 0 rfl) ?_
            obtain ⟨hin, h⟩ := mm_ix_some h
            refine mm_iald (h := 24) (i := 0) hX hP mm_ls24 (fun _ => rfl) rfl hin d_Mo_of1_62 ?_
            refine lv_goto (tgt := 118) hx hb d_Mo_of1_63 rfl ?_
            exact w_Mo_of1_b118 hX h hP hF (lv_sub (l' := []) hl [] rfl)
        · have h := mm_pos hc h
          refine lv_iconst (v := -1) hx hb d_Mo_of1_50 (by decide) ?_
          cases h
          exact mm_iret hx hb hr hlk hP hF d_Mo_of1_51
      · cases h
        exact mm_goT (x := xe + 1) (mm_goS (As := [.int x1, .int x2]) (rest := []) hX (c_Mo_at hf6) yw_Mo_at wt_717 wt_718 wt_8 hP hF rfl hl.1 (Nat.le_of_ble_eq_true rfl) (by decide) (by decide) hRc hRs d_Mo_of1_36) hF hex hlk
    · have h := mm_neg hc h
      refine lv_iconst (v := 0) hx hb d_Mo_of1_32 (by decide) ?_
      cases h
      exact mm_iret hx hb hr hlk hP hF d_Mo_of1_33
  · cases h
    exact mm_goT (x := xe + 1) (mm_goV (As := [.int t1, .int 0, .int 0]) (rest := []) hX (c_Mo_refused hv_u0 hf3) yw_Mo_refused wt_713 wt_715 ws_0_13 hP hF (mm_recv (h := 20) (i := u0) hX hP hv_u0 rfl rfl) rfl hl.1 (Nat.le_of_ble_eq_true rfl) (by decide) (by decide) hRc hRs d_Mo_of1_26) hF hex hlk
def f_Mo_of1_b19 (n : Nat) (g : mm_M) (r0 : Nat) (x1 : Int32) (x2 : Int32) (x3 : Int32) (u0 : Nat) : Option (Nat × Int32 × mm_M) :=
  f_Mo_of1_b24 n g r0 x1 x2 x3 u0 1
set_option maxRecDepth 100000 in
set_option maxHeartbeats 4000000 in
theorem w_Mo_of1_b19 {p : Program} {l : Launch} {e : Env} {R : Room} {s : State} {m : MethodId} {args : Array Value} {below : List Frame} {meth : Method} {c : Code} {L : mm_L} {eo : Nat} {v : Int32} {g' : mm_M} {g : mm_M} {r0 : Nat} {x1 : Int32} {x2 : Int32} {x3 : Int32} {u0 : Nat} {H : Heap} {locs : List Loc} {ls : Array Slot} (hX : mm_X L prog_9_method_34_code 5 "LoanArrowsModel" (some .int) 2 43 p l R s m meth c) (h : f_Mo_of1_b19 L.1 g r0 x1 x2 x3 u0 = some (eo, v, g')) (hP : mm_P L g H) (hF : ∀ q ∈ locs, mm_F L q.base) (hl : lv_has ls 5 [(0, .ref (L.2.1 20 r0)), (1, .int x1), (2, .int x2), (3, .int x3)]) (hv_r0 : mm_lv L.1 20 r0) (hv_u0 : mm_lv L.1 20 u0) : W p l e R s m args below meth c H locs 0 0 (mm_Q below L s (mm_oi eo v) g') (F0 m 19 ls [.ref (L.2.1 20 u0)]) := by
  have hX0 := hX
  obtain ⟨hx, hb, hml, hown, hr, hlk, hex, hRf, hRl, hRc, hRs, hJ, hK, hst, h00⟩ := hX0
  unfold f_Mo_of1_b19 at h
  refine lv_iconst (v := 1) hx hb d_Mo_of1_19 (by decide) ?_
  refine lv_goto (tgt := 24) hx hb d_Mo_of1_20 rfl ?_
  exact w_Mo_of1_b24 hX h hP hF (lv_sub (l' := [(0, .ref (L.2.1 20 r0)), (1, .int x1), (2, .int x2), (3, .int x3)]) hl [0, 1, 2, 3] rfl) hv_r0 hv_u0
def f_Mo_of1 (n : Nat) (g : mm_M) (r0 : Nat) (x1 : Int32) (x2 : Int32) (x3 : Int32) : Option (Nat × Int32 × mm_M) :=
  mm_bd (f_Mo_isPair n g r0 x1 x2) 0 (fun z1 g2 => (if z1 = 0 then f_Mo_of1_b19 n g2 r0 x1 x2 x3 r0 else (if x3 < 0 then f_Mo_of1_b19 n g2 r0 x1 x2 x3 r0 else (if x3 ≤ 4 then f_Mo_of1_b24 n g2 r0 x1 x2 x3 r0 0 else f_Mo_of1_b19 n g2 r0 x1 x2 x3 r0))))
set_option maxRecDepth 100000 in
set_option maxHeartbeats 4000000 in
theorem w_Mo_of1 {p : Program} {l : Launch} {e : Env} {R : Room} {s : State} {m : MethodId} {args : Array Value} {below : List Frame} {meth : Method} {c : Code} {L : mm_L} {eo : Nat} {v : Int32} {g' : mm_M} {g : mm_M} {r0 : Nat} {x1 : Int32} {x2 : Int32} {x3 : Int32} {H : Heap} {locs : List Loc} {ls : Array Slot} (hX : mm_X L prog_9_method_34_code 5 "LoanArrowsModel" (some .int) 2 43 p l R s m meth c) (h : f_Mo_of1 L.1 g r0 x1 x2 x3 = some (eo, v, g')) (hP : mm_P L g H) (hF : ∀ q ∈ locs, mm_F L q.base) (hl : lv_has ls 5 [(0, .ref (L.2.1 20 r0)), (1, .int x1), (2, .int x2), (3, .int x3)]) (hv_r0 : mm_lv L.1 20 r0) : W p l e R s m args below meth c H locs 0 0 (mm_Q below L s (mm_oi eo v) g') (F0 m 0 ls []) := by
  have hX0 := hX
  obtain ⟨hx, hb, hml, hown, hr, hlk, hex, hRf, hRl, hRc, hRs, hJ, hK, hst, h00⟩ := hX0
  unfold f_Mo_of1 at h
  refine lv_aload_n hx hb d_Mo_of1_0 rfl (lv_at hl 0 rfl) ?_
  refine lv_aload_n hx hb d_Mo_of1_1 rfl (lv_at hl 0 rfl) ?_
  refine lv_iload_n hx hb d_Mo_of1_2 rfl (lv_at hl 1 rfl) ?_
  refine lv_iload_n hx hb d_Mo_of1_3 rfl (lv_at hl 2 rfl) ?_
  rcases mm_bd_some h with ⟨z1, g2, hf3, h⟩ | ⟨xe, z1, g2, hf3, h⟩
  · refine mm_goR (v := (some (.int z1))) (mm_goV (As := [.int x1, .int x2]) (rest := [.ref (L.2.1 20 r0)]) hX (c_Mo_isPair hv_r0 hf3) yw_Mo_isPair wt_702 wt_704 ws_0_11 hP hF (mm_recv (h := 20) (i := r0) hX hP hv_r0 rfl rfl) rfl hl.1 (Nat.le_of_ble_eq_true rfl) (by decide) (by decide) hRc hRs d_Mo_of1_4) hF (fun H locs hP hF _ => ?_)
    refine lv_if_eq (tgt := 19) hx hb d_Mo_of1_7 rfl (fun hc => ?_) (fun hc => ?_)
    · have h := mm_pos hc h
      exact w_Mo_of1_b19 hX h hP hF (lv_sub (l' := [(0, .ref (L.2.1 20 r0)), (1, .int x1), (2, .int x2), (3, .int x3)]) hl [0, 1, 2, 3] rfl) hv_r0 hv_r0
    · have h := mm_neg hc h
      refine lv_iload_n hx hb d_Mo_of1_10 rfl (lv_at hl 3 rfl) ?_
      refine lv_if_lt (tgt := 19) hx hb d_Mo_of1_11 rfl (fun hc => ?_) (fun hc => ?_)
      · have h := mm_pos hc h
        exact w_Mo_of1_b19 hX h hP hF (lv_sub (l' := [(0, .ref (L.2.1 20 r0)), (1, .int x1), (2, .int x2), (3, .int x3)]) hl [0, 1, 2, 3] rfl) hv_r0 hv_r0
      · have h := mm_neg hc h
        refine lv_iload_n hx hb d_Mo_of1_14 rfl (lv_at hl 3 rfl) ?_
        refine lv_iconst (v := 4) hx hb d_Mo_of1_15 (by decide) ?_
        refine lv_icmp_le (tgt := 23) hx hb d_Mo_of1_16 rfl (fun hc => ?_) (fun hc => ?_)
        · have h := mm_pos hc h
          refine lv_iconst (v := 0) hx hb d_Mo_of1_23 (by decide) ?_
          exact w_Mo_of1_b24 hX h hP hF (lv_sub (l' := [(0, .ref (L.2.1 20 r0)), (1, .int x1), (2, .int x2), (3, .int x3)]) hl [0, 1, 2, 3] rfl) hv_r0 hv_r0
        · have h := mm_neg hc h
          exact w_Mo_of1_b19 hX h hP hF (lv_sub (l' := [(0, .ref (L.2.1 20 r0)), (1, .int x1), (2, .int x2), (3, .int x3)]) hl [0, 1, 2, 3] rfl) hv_r0 hv_r0
  · cases h
    exact mm_goT (x := xe + 1) (mm_goV (As := [.int x1, .int x2]) (rest := [.ref (L.2.1 20 r0)]) hX (c_Mo_isPair hv_r0 hf3) yw_Mo_isPair wt_702 wt_704 ws_0_11 hP hF (mm_recv (h := 20) (i := r0) hX hP hv_r0 rfl rfl) rfl hl.1 (Nat.le_of_ble_eq_true rfl) (by decide) (by decide) hRc hRs d_Mo_of1_4) hF hex hlk
set_option maxRecDepth 100000 in
set_option maxHeartbeats 4000000 in
theorem c_Mo_of1 {l : Launch} {L : mm_L} {g g' : mm_M} {eo : Nat} {v : Int32} {r0 : Nat} {x1 : Int32} {x2 : Int32} {x3 : Int32} (hv_r0 : mm_lv L.1 20 r0) (h : f_Mo_of1 L.1 g r0 x1 x2 x3 = some (eo, v, g')) : mm_C l y_Mo_of1 prog_9_method_34_code 5 (some .int) 2 43 L [.ref (L.2.1 20 r0), .int x1, .int x2, .int x3] g (mm_oi eo v) g' := by
  intro p e R s m below meth c hX hP
  refine mm_enter (Nat.le_of_ble_eq_true rfl) fun ls hl => ?_
  exact w_Mo_of1 hX h hP (fun q hq => by cases hq) (lv_sub (l' := [(0, .ref (L.2.1 20 r0)), (1, .int x1), (2, .int x2), (3, .int x3)]) hl [0, 1, 2, 3] rfl) hv_r0
def f_Mo_reader_b61 (n : Nat) (g : mm_M) (t0 : Int32) : Option (Nat × Int32 × mm_M) :=
  some (0, t0, g)
set_option maxRecDepth 100000 in
set_option maxHeartbeats 4000000 in
theorem w_Mo_reader_b61 {p : Program} {l : Launch} {e : Env} {R : Room} {s : State} {m : MethodId} {args : Array Value} {below : List Frame} {meth : Method} {c : Code} {L : mm_L} {eo : Nat} {v : Int32} {g' : mm_M} {g : mm_M} {t0 : Int32} {H : Heap} {locs : List Loc} {ls : Array Slot} (hX : mm_X L prog_9_method_35_code 4 "LoanArrowsModel" (some .int) 2 43 p l R s m meth c) (h : f_Mo_reader_b61 L.1 g t0 = some (eo, v, g')) (hP : mm_P L g H) (hF : ∀ q ∈ locs, mm_F L q.base) (hl : lv_has ls 4 []) : W p l e R s m args below meth c H locs 0 0 (mm_Q below L s (mm_oi eo v) g') (F0 m 61 ls [.int t0]) := by
  have hX0 := hX
  obtain ⟨hx, hb, hml, hown, hr, hlk, hex, hRf, hRl, hRc, hRs, hJ, hK, hst, h00⟩ := hX0
  unfold f_Mo_reader_b61 at h
  cases h
  exact mm_iret hx hb hr hlk hP hF d_Mo_reader_61
def f_Mo_reader_b60 (n : Nat) (g : mm_M)  : Option (Nat × Int32 × mm_M) :=
  f_Mo_reader_b61 n g (-1)
set_option maxRecDepth 100000 in
set_option maxHeartbeats 4000000 in
theorem w_Mo_reader_b60 {p : Program} {l : Launch} {e : Env} {R : Room} {s : State} {m : MethodId} {args : Array Value} {below : List Frame} {meth : Method} {c : Code} {L : mm_L} {eo : Nat} {v : Int32} {g' : mm_M} {g : mm_M} {H : Heap} {locs : List Loc} {ls : Array Slot} (hX : mm_X L prog_9_method_35_code 4 "LoanArrowsModel" (some .int) 2 43 p l R s m meth c) (h : f_Mo_reader_b60 L.1 g = some (eo, v, g')) (hP : mm_P L g H) (hF : ∀ q ∈ locs, mm_F L q.base) (hl : lv_has ls 4 []) : W p l e R s m args below meth c H locs 0 0 (mm_Q below L s (mm_oi eo v) g') (F0 m 60 ls []) := by
  have hX0 := hX
  obtain ⟨hx, hb, hml, hown, hr, hlk, hex, hRf, hRl, hRc, hRs, hJ, hK, hst, h00⟩ := hX0
  unfold f_Mo_reader_b60 at h
  refine lv_iconst (v := -1) hx hb d_Mo_reader_60 (by decide) ?_
  exact w_Mo_reader_b61 hX h hP hF (lv_sub (l' := []) hl [] rfl)
def f_Mo_reader_b15 (n : Nat) (g : mm_M) (r0 : Nat) (x1 : Int32) (x2 : Int32) (x3 : Int32) (u0 : Nat) (t1 : Int32) : Option (Nat × Int32 × mm_M) :=
  mm_bd (f_Mo_refused n g u0 t1 0 0) 0 (fun z1 g2 => (if z1 = 0 then (if x3 < 0 then f_Mo_reader_b60 n g2 else mm_bd (f_Mo_at n g2 x1 x2) 0 (fun z4 g5 => mm_ix z4 36 ((if (g5 28 0 z4.toNatClampNeg) ≤ x3 then f_Mo_reader_b60 n g5 else mm_bd (f_Mo_at n g5 x1 x2) 0 (fun z7 g8 => mm_ix ((4 * z7) + x3) 144 (f_Mo_reader_b61 n g8 (g8 29 0 ((4 * z7) + x3).toNatClampNeg))))))) else some (0, 0, g2)))
set_option maxRecDepth 100000 in
set_option maxHeartbeats 4000000 in
theorem w_Mo_reader_b15 {p : Program} {l : Launch} {e : Env} {R : Room} {s : State} {m : MethodId} {args : Array Value} {below : List Frame} {meth : Method} {c : Code} {L : mm_L} {eo : Nat} {v : Int32} {g' : mm_M} {g : mm_M} {r0 : Nat} {x1 : Int32} {x2 : Int32} {x3 : Int32} {u0 : Nat} {t1 : Int32} {H : Heap} {locs : List Loc} {ls : Array Slot} (hX : mm_X L prog_9_method_35_code 4 "LoanArrowsModel" (some .int) 2 43 p l R s m meth c) (h : f_Mo_reader_b15 L.1 g r0 x1 x2 x3 u0 t1 = some (eo, v, g')) (hP : mm_P L g H) (hF : ∀ q ∈ locs, mm_F L q.base) (hl : lv_has ls 4 [(0, .ref (L.2.1 20 r0)), (1, .int x1), (2, .int x2), (3, .int x3)]) (hv_r0 : mm_lv L.1 20 r0) (hv_u0 : mm_lv L.1 20 u0) : W p l e R s m args below meth c H locs 0 0 (mm_Q below L s (mm_oi eo v) g') (F0 m 15 ls [.int t1, .ref (L.2.1 20 u0)]) := by
  have hX0 := hX
  obtain ⟨hx, hb, hml, hown, hr, hlk, hex, hRf, hRl, hRc, hRs, hJ, hK, hst, h00⟩ := hX0
  unfold f_Mo_reader_b15 at h
  refine lv_iconst (v := 0) hx hb d_Mo_reader_15 (by decide) ?_
  refine lv_iconst (v := 0) hx hb d_Mo_reader_16 (by decide) ?_
  rcases mm_bd_some h with ⟨z1, g2, hf3, h⟩ | ⟨xe, z1, g2, hf3, h⟩
  · refine mm_goR (v := (some (.int z1))) (mm_goV (As := [.int t1, .int 0, .int 0]) (rest := []) hX (c_Mo_refused hv_u0 hf3) yw_Mo_refused wt_713 wt_715 ws_0_13 hP hF (mm_recv (h := 20) (i := u0) hX hP hv_u0 rfl rfl) rfl hl.1 (Nat.le_of_ble_eq_true rfl) (by decide) (by decide) hRc hRs d_Mo_reader_17) hF (fun H locs hP hF _ => ?_)
    refine lv_if_eq (tgt := 25) hx hb d_Mo_reader_20 rfl (fun hc => ?_) (fun hc => ?_)
    · have h := mm_pos hc h
      refine lv_iload_n hx hb d_Mo_reader_25 rfl (lv_at hl 3 rfl) ?_
      refine lv_if_lt (tgt := 60) hx hb d_Mo_reader_26 rfl (fun hc => ?_) (fun hc => ?_)
      · have h := mm_pos hc h
        exact w_Mo_reader_b60 hX h hP hF (lv_sub (l' := []) hl [] rfl)
      · have h := mm_neg hc h
        refine lv_iload_n hx hb d_Mo_reader_29 rfl (lv_at hl 3 rfl) ?_
        refine lv_aload_n hx hb d_Mo_reader_30 rfl (lv_at hl 0 rfl) ?_
        refine mm_get (h := 20) (i := r0) 9 hX hP hv_r0 rfl rfl uin_20 (by decide) ⟨rfl, rfl, rfl⟩ wt_621 rfl d_Mo_reader_31 ?_
        refine lv_iload_n hx hb d_Mo_reader_34 rfl (lv_at hl 1 rfl) ?_
        refine lv_iload_n hx hb d_Mo_reader_35 rfl (lv_at hl 2 rfl) ?_
        rcases mm_bd_some h with ⟨z4, g5, hf6, h⟩ | ⟨xe, z4, g5, hf6, h⟩
        · refine mm_goR (v := (some (.int z4))) (mm_goS (As := [.int x1, .int x2]) (rest := [.ref (L.2.1 28 0), .int x3]) hX (c_Mo_at hf6) yw_Mo_at wt_717 wt_718 wt_8 hP hF rfl hl.1 (Nat.le_of_ble_eq_true rfl) (by decide) (by decide) hRc hRs d_Mo_reader_36) hF (fun H locs hP hF _ => ?_)
          obtain ⟨hin, h⟩ := mm_ix_some h
          refine mm_iald (h := 28) (i := 0) hX hP mm_ls28 (fun _ => rfl) rfl hin d_Mo_reader_39 ?_
          refine lv_icmp_ge (tgt := 60) hx hb d_Mo_reader_40 rfl (fun hc => ?_) (fun hc => ?_)
          · have h := mm_pos hc h
            exact w_Mo_reader_b60 hX h hP hF (lv_sub (l' := []) hl [] rfl)
          · have h := mm_neg hc h
            refine lv_aload_n hx hb d_Mo_reader_43 rfl (lv_at hl 0 rfl) ?_
            refine mm_get (h := 20) (i := r0) 10 hX hP hv_r0 rfl rfl uin_20 (by decide) ⟨rfl, rfl, rfl⟩ wt_622 rfl d_Mo_reader_44 ?_
            refine lv_iconst (v := 4) hx hb d_Mo_reader_47 (by decide) ?_
            refine lv_iload_n hx hb d_Mo_reader_48 rfl (lv_at hl 1 rfl) ?_
            refine lv_iload_n hx hb d_Mo_reader_49 rfl (lv_at hl 2 rfl) ?_
            rcases mm_bd_some h with ⟨z7, g8, hf9, h⟩ | ⟨xe, z7, g8, hf9, h⟩
            · refine mm_goR (v := (some (.int z7))) (mm_goS (As := [.int x1, .int x2]) (rest := [.int 4, .ref (L.2.1 29 0)]) hX (c_Mo_at hf9) yw_Mo_at wt_717 wt_718 wt_8 hP hF rfl hl.1 (Nat.le_of_ble_eq_true rfl) (by decide) (by decide) hRc hRs d_Mo_reader_50) hF (fun H locs hP hF _ => ?_)
              refine lv_imul hx hb d_Mo_reader_53 ?_
              refine lv_iload_n hx hb d_Mo_reader_54 rfl (lv_at hl 3 rfl) ?_
              refine lv_iadd hx hb d_Mo_reader_55 ?_
              obtain ⟨hin, h⟩ := mm_ix_some h
              refine mm_iald (h := 29) (i := 0) hX hP mm_ls29 (fun _ => rfl) rfl hin d_Mo_reader_56 ?_
              refine lv_goto (tgt := 61) hx hb d_Mo_reader_57 rfl ?_
              exact w_Mo_reader_b61 hX h hP hF (lv_sub (l' := []) hl [] rfl)
            · cases h
              exact mm_goT (x := xe + 1) (mm_goS (As := [.int x1, .int x2]) (rest := [.int 4, .ref (L.2.1 29 0)]) hX (c_Mo_at hf9) yw_Mo_at wt_717 wt_718 wt_8 hP hF rfl hl.1 (Nat.le_of_ble_eq_true rfl) (by decide) (by decide) hRc hRs d_Mo_reader_50) hF hex hlk
        · cases h
          exact mm_goT (x := xe + 1) (mm_goS (As := [.int x1, .int x2]) (rest := [.ref (L.2.1 28 0), .int x3]) hX (c_Mo_at hf6) yw_Mo_at wt_717 wt_718 wt_8 hP hF rfl hl.1 (Nat.le_of_ble_eq_true rfl) (by decide) (by decide) hRc hRs d_Mo_reader_36) hF hex hlk
    · have h := mm_neg hc h
      refine lv_iconst (v := 0) hx hb d_Mo_reader_23 (by decide) ?_
      cases h
      exact mm_iret hx hb hr hlk hP hF d_Mo_reader_24
  · cases h
    exact mm_goT (x := xe + 1) (mm_goV (As := [.int t1, .int 0, .int 0]) (rest := []) hX (c_Mo_refused hv_u0 hf3) yw_Mo_refused wt_713 wt_715 ws_0_13 hP hF (mm_recv (h := 20) (i := u0) hX hP hv_u0 rfl rfl) rfl hl.1 (Nat.le_of_ble_eq_true rfl) (by decide) (by decide) hRc hRs d_Mo_reader_17) hF hex hlk
def f_Mo_reader (n : Nat) (g : mm_M) (r0 : Nat) (x1 : Int32) (x2 : Int32) (x3 : Int32) : Option (Nat × Int32 × mm_M) :=
  mm_bd (f_Mo_isPair n g r0 x1 x2) 0 (fun z1 g2 => (if z1 = 0 then f_Mo_reader_b15 n g2 r0 x1 x2 x3 r0 1 else f_Mo_reader_b15 n g2 r0 x1 x2 x3 r0 0))
set_option maxRecDepth 100000 in
set_option maxHeartbeats 4000000 in
theorem w_Mo_reader {p : Program} {l : Launch} {e : Env} {R : Room} {s : State} {m : MethodId} {args : Array Value} {below : List Frame} {meth : Method} {c : Code} {L : mm_L} {eo : Nat} {v : Int32} {g' : mm_M} {g : mm_M} {r0 : Nat} {x1 : Int32} {x2 : Int32} {x3 : Int32} {H : Heap} {locs : List Loc} {ls : Array Slot} (hX : mm_X L prog_9_method_35_code 4 "LoanArrowsModel" (some .int) 2 43 p l R s m meth c) (h : f_Mo_reader L.1 g r0 x1 x2 x3 = some (eo, v, g')) (hP : mm_P L g H) (hF : ∀ q ∈ locs, mm_F L q.base) (hl : lv_has ls 4 [(0, .ref (L.2.1 20 r0)), (1, .int x1), (2, .int x2), (3, .int x3)]) (hv_r0 : mm_lv L.1 20 r0) : W p l e R s m args below meth c H locs 0 0 (mm_Q below L s (mm_oi eo v) g') (F0 m 0 ls []) := by
  have hX0 := hX
  obtain ⟨hx, hb, hml, hown, hr, hlk, hex, hRf, hRl, hRc, hRs, hJ, hK, hst, h00⟩ := hX0
  unfold f_Mo_reader at h
  refine lv_aload_n hx hb d_Mo_reader_0 rfl (lv_at hl 0 rfl) ?_
  refine lv_aload_n hx hb d_Mo_reader_1 rfl (lv_at hl 0 rfl) ?_
  refine lv_iload_n hx hb d_Mo_reader_2 rfl (lv_at hl 1 rfl) ?_
  refine lv_iload_n hx hb d_Mo_reader_3 rfl (lv_at hl 2 rfl) ?_
  rcases mm_bd_some h with ⟨z1, g2, hf3, h⟩ | ⟨xe, z1, g2, hf3, h⟩
  · refine mm_goR (v := (some (.int z1))) (mm_goV (As := [.int x1, .int x2]) (rest := [.ref (L.2.1 20 r0)]) hX (c_Mo_isPair hv_r0 hf3) yw_Mo_isPair wt_702 wt_704 ws_0_11 hP hF (mm_recv (h := 20) (i := r0) hX hP hv_r0 rfl rfl) rfl hl.1 (Nat.le_of_ble_eq_true rfl) (by decide) (by decide) hRc hRs d_Mo_reader_4) hF (fun H locs hP hF _ => ?_)
    refine lv_if_ne (tgt := 14) hx hb d_Mo_reader_7 rfl (fun hc => ?_) (fun hc => ?_)
    · have h := mm_neg hc h
      refine lv_iconst (v := 0) hx hb d_Mo_reader_14 (by decide) ?_
      exact w_Mo_reader_b15 hX h hP hF (lv_sub (l' := [(0, .ref (L.2.1 20 r0)), (1, .int x1), (2, .int x2), (3, .int x3)]) hl [0, 1, 2, 3] rfl) hv_r0 hv_r0
    · have h := mm_pos hc h
      refine lv_iconst (v := 1) hx hb d_Mo_reader_10 (by decide) ?_
      refine lv_goto (tgt := 15) hx hb d_Mo_reader_11 rfl ?_
      exact w_Mo_reader_b15 hX h hP hF (lv_sub (l' := [(0, .ref (L.2.1 20 r0)), (1, .int x1), (2, .int x2), (3, .int x3)]) hl [0, 1, 2, 3] rfl) hv_r0 hv_r0
  · cases h
    exact mm_goT (x := xe + 1) (mm_goV (As := [.int x1, .int x2]) (rest := [.ref (L.2.1 20 r0)]) hX (c_Mo_isPair hv_r0 hf3) yw_Mo_isPair wt_702 wt_704 ws_0_11 hP hF (mm_recv (h := 20) (i := r0) hX hP hv_r0 rfl rfl) rfl hl.1 (Nat.le_of_ble_eq_true rfl) (by decide) (by decide) hRc hRs d_Mo_reader_4) hF hex hlk
set_option maxRecDepth 100000 in
set_option maxHeartbeats 4000000 in
theorem c_Mo_reader {l : Launch} {L : mm_L} {g g' : mm_M} {eo : Nat} {v : Int32} {r0 : Nat} {x1 : Int32} {x2 : Int32} {x3 : Int32} (hv_r0 : mm_lv L.1 20 r0) (h : f_Mo_reader L.1 g r0 x1 x2 x3 = some (eo, v, g')) : mm_C l y_Mo_reader prog_9_method_35_code 4 (some .int) 2 43 L [.ref (L.2.1 20 r0), .int x1, .int x2, .int x3] g (mm_oi eo v) g' := by
  intro p e R s m below meth c hX hP
  refine mm_enter (Nat.le_of_ble_eq_true rfl) fun ls hl => ?_
  exact w_Mo_reader hX h hP (fun q hq => by cases hq) (lv_sub (l' := [(0, .ref (L.2.1 20 r0)), (1, .int x1), (2, .int x2), (3, .int x3)]) hl [0, 1, 2, 3] rfl) hv_r0
def f_Mo_place_b50 (n : Nat) (g : mm_M) (t0 : Int32) : Option (Nat × Int32 × mm_M) :=
  some (0, t0, g)
set_option maxRecDepth 100000 in
set_option maxHeartbeats 4000000 in
theorem w_Mo_place_b50 {p : Program} {l : Launch} {e : Env} {R : Room} {s : State} {m : MethodId} {args : Array Value} {below : List Frame} {meth : Method} {c : Code} {L : mm_L} {eo : Nat} {v : Int32} {g' : mm_M} {g : mm_M} {t0 : Int32} {H : Heap} {locs : List Loc} {ls : Array Slot} (hX : mm_X L prog_9_method_36_code 2 "LoanArrowsModel" (some .int) 1 23 p l R s m meth c) (h : f_Mo_place_b50 L.1 g t0 = some (eo, v, g')) (hP : mm_P L g H) (hF : ∀ q ∈ locs, mm_F L q.base) (hl : lv_has ls 2 []) : W p l e R s m args below meth c H locs 0 0 (mm_Q below L s (mm_oi eo v) g') (F0 m 50 ls [.int t0]) := by
  have hX0 := hX
  obtain ⟨hx, hb, hml, hown, hr, hlk, hex, hRf, hRl, hRc, hRs, hJ, hK, hst, h00⟩ := hX0
  unfold f_Mo_place_b50 at h
  cases h
  exact mm_iret hx hb hr hlk hP hF d_Mo_place_50
def f_Mo_place_b13 (n : Nat) (g : mm_M) (r0 : Nat) (x1 : Int32) (u0 : Nat) (t1 : Int32) : Option (Nat × Int32 × mm_M) :=
  mm_bd (f_Mo_refused n g u0 t1 0 0) 0 (fun z1 g2 => (if z1 = 0 then mm_ix x1 3 ((if (g2 31 0 x1.toNatClampNeg) = 0 then mm_ix x1 3 (f_Mo_place_b50 n g2 (g2 30 0 x1.toNatClampNeg)) else mm_ix x1 3 (f_Mo_place_b50 n g2 (16 + (g2 30 0 x1.toNatClampNeg))))) else some (0, 0, g2)))
set_option maxRecDepth 100000 in
set_option maxHeartbeats 4000000 in
theorem w_Mo_place_b13 {p : Program} {l : Launch} {e : Env} {R : Room} {s : State} {m : MethodId} {args : Array Value} {below : List Frame} {meth : Method} {c : Code} {L : mm_L} {eo : Nat} {v : Int32} {g' : mm_M} {g : mm_M} {r0 : Nat} {x1 : Int32} {u0 : Nat} {t1 : Int32} {H : Heap} {locs : List Loc} {ls : Array Slot} (hX : mm_X L prog_9_method_36_code 2 "LoanArrowsModel" (some .int) 1 23 p l R s m meth c) (h : f_Mo_place_b13 L.1 g r0 x1 u0 t1 = some (eo, v, g')) (hP : mm_P L g H) (hF : ∀ q ∈ locs, mm_F L q.base) (hl : lv_has ls 2 [(0, .ref (L.2.1 20 r0)), (1, .int x1)]) (hv_r0 : mm_lv L.1 20 r0) (hv_u0 : mm_lv L.1 20 u0) : W p l e R s m args below meth c H locs 0 0 (mm_Q below L s (mm_oi eo v) g') (F0 m 13 ls [.int t1, .ref (L.2.1 20 u0)]) := by
  have hX0 := hX
  obtain ⟨hx, hb, hml, hown, hr, hlk, hex, hRf, hRl, hRc, hRs, hJ, hK, hst, h00⟩ := hX0
  unfold f_Mo_place_b13 at h
  refine lv_iconst (v := 0) hx hb d_Mo_place_13 (by decide) ?_
  refine lv_iconst (v := 0) hx hb d_Mo_place_14 (by decide) ?_
  rcases mm_bd_some h with ⟨z1, g2, hf3, h⟩ | ⟨xe, z1, g2, hf3, h⟩
  · refine mm_goR (v := (some (.int z1))) (mm_goV (As := [.int t1, .int 0, .int 0]) (rest := []) hX (c_Mo_refused hv_u0 hf3) yw_Mo_refused wt_713 wt_715 ws_0_13 hP hF (mm_recv (h := 20) (i := u0) hX hP hv_u0 rfl rfl) rfl hl.1 (Nat.le_of_ble_eq_true rfl) (by decide) (by decide) hRc hRs d_Mo_place_15) hF (fun H locs hP hF _ => ?_)
    refine lv_if_eq (tgt := 23) hx hb d_Mo_place_18 rfl (fun hc => ?_) (fun hc => ?_)
    · have h := mm_pos hc h
      refine lv_aload_n hx hb d_Mo_place_23 rfl (lv_at hl 0 rfl) ?_
      refine mm_get (h := 20) (i := r0) 12 hX hP hv_r0 rfl rfl uin_20 (by decide) ⟨rfl, rfl, rfl⟩ wt_624 rfl d_Mo_place_24 ?_
      refine lv_iload_n hx hb d_Mo_place_27 rfl (lv_at hl 1 rfl) ?_
      obtain ⟨hin, h⟩ := mm_ix_some h
      refine mm_zald (h := 31) (i := 0) hX hP mm_ls31 (fun _ => rfl) rfl hin d_Mo_place_28 ?_
      refine lv_if_eq (tgt := 44) hx hb d_Mo_place_29 rfl (fun hc => ?_) (fun hc => ?_)
      · have h := mm_pos hc h
        refine lv_aload_n hx hb d_Mo_place_44 rfl (lv_at hl 0 rfl) ?_
        refine mm_get (h := 20) (i := r0) 11 hX hP hv_r0 rfl rfl uin_20 (by decide) ⟨rfl, rfl, rfl⟩ wt_623 rfl d_Mo_place_45 ?_
        refine lv_iload_n hx hb d_Mo_place_48 rfl (lv_at hl 1 rfl) ?_
        obtain ⟨hin, h⟩ := mm_ix_some h
        refine mm_iald (h := 30) (i := 0) hX hP mm_ls30 (fun _ => rfl) rfl hin d_Mo_place_49 ?_
        exact w_Mo_place_b50 hX h hP hF (lv_sub (l' := []) hl [] rfl)
      · have h := mm_neg hc h
        refine lv_bipush (v := 16) hx hb d_Mo_place_32 (by decide) ?_
        refine lv_aload_n hx hb d_Mo_place_34 rfl (lv_at hl 0 rfl) ?_
        refine mm_get (h := 20) (i := r0) 11 hX hP hv_r0 rfl rfl uin_20 (by decide) ⟨rfl, rfl, rfl⟩ wt_623 rfl d_Mo_place_35 ?_
        refine lv_iload_n hx hb d_Mo_place_38 rfl (lv_at hl 1 rfl) ?_
        obtain ⟨hin, h⟩ := mm_ix_some h
        refine mm_iald (h := 30) (i := 0) hX hP mm_ls30 (fun _ => rfl) rfl hin d_Mo_place_39 ?_
        refine lv_iadd hx hb d_Mo_place_40 ?_
        refine lv_goto (tgt := 50) hx hb d_Mo_place_41 rfl ?_
        exact w_Mo_place_b50 hX h hP hF (lv_sub (l' := []) hl [] rfl)
    · have h := mm_neg hc h
      refine lv_iconst (v := 0) hx hb d_Mo_place_21 (by decide) ?_
      cases h
      exact mm_iret hx hb hr hlk hP hF d_Mo_place_22
  · cases h
    exact mm_goT (x := xe + 1) (mm_goV (As := [.int t1, .int 0, .int 0]) (rest := []) hX (c_Mo_refused hv_u0 hf3) yw_Mo_refused wt_713 wt_715 ws_0_13 hP hF (mm_recv (h := 20) (i := u0) hX hP hv_u0 rfl rfl) rfl hl.1 (Nat.le_of_ble_eq_true rfl) (by decide) (by decide) hRc hRs d_Mo_place_15) hF hex hlk
def f_Mo_place (n : Nat) (g : mm_M) (r0 : Nat) (x1 : Int32) : Option (Nat × Int32 × mm_M) :=
  mm_bd (f_Mo_isCopy n g x1) 0 (fun z1 g2 => (if z1 = 0 then f_Mo_place_b13 n g2 r0 x1 r0 1 else f_Mo_place_b13 n g2 r0 x1 r0 0))
set_option maxRecDepth 100000 in
set_option maxHeartbeats 4000000 in
theorem w_Mo_place {p : Program} {l : Launch} {e : Env} {R : Room} {s : State} {m : MethodId} {args : Array Value} {below : List Frame} {meth : Method} {c : Code} {L : mm_L} {eo : Nat} {v : Int32} {g' : mm_M} {g : mm_M} {r0 : Nat} {x1 : Int32} {H : Heap} {locs : List Loc} {ls : Array Slot} (hX : mm_X L prog_9_method_36_code 2 "LoanArrowsModel" (some .int) 1 23 p l R s m meth c) (h : f_Mo_place L.1 g r0 x1 = some (eo, v, g')) (hP : mm_P L g H) (hF : ∀ q ∈ locs, mm_F L q.base) (hl : lv_has ls 2 [(0, .ref (L.2.1 20 r0)), (1, .int x1)]) (hv_r0 : mm_lv L.1 20 r0) : W p l e R s m args below meth c H locs 0 0 (mm_Q below L s (mm_oi eo v) g') (F0 m 0 ls []) := by
  have hX0 := hX
  obtain ⟨hx, hb, hml, hown, hr, hlk, hex, hRf, hRl, hRc, hRs, hJ, hK, hst, h00⟩ := hX0
  unfold f_Mo_place at h
  refine lv_aload_n hx hb d_Mo_place_0 rfl (lv_at hl 0 rfl) ?_
  refine lv_iload_n hx hb d_Mo_place_1 rfl (lv_at hl 1 rfl) ?_
  rcases mm_bd_some h with ⟨z1, g2, hf3, h⟩ | ⟨xe, z1, g2, hf3, h⟩
  · refine mm_goR (v := (some (.int z1))) (mm_goS (As := [.int x1]) (rest := [.ref (L.2.1 20 r0)]) hX (c_Mo_isCopy hf3) yw_Mo_isCopy wt_710 wt_711 wt_8 hP hF rfl hl.1 (Nat.le_of_ble_eq_true rfl) (by decide) (by decide) hRc hRs d_Mo_place_2) hF (fun H locs hP hF _ => ?_)
    refine lv_if_ne (tgt := 12) hx hb d_Mo_place_5 rfl (fun hc => ?_) (fun hc => ?_)
    · have h := mm_neg hc h
      refine lv_iconst (v := 0) hx hb d_Mo_place_12 (by decide) ?_
      exact w_Mo_place_b13 hX h hP hF (lv_sub (l' := [(0, .ref (L.2.1 20 r0)), (1, .int x1)]) hl [0, 1] rfl) hv_r0 hv_r0
    · have h := mm_pos hc h
      refine lv_iconst (v := 1) hx hb d_Mo_place_8 (by decide) ?_
      refine lv_goto (tgt := 13) hx hb d_Mo_place_9 rfl ?_
      exact w_Mo_place_b13 hX h hP hF (lv_sub (l' := [(0, .ref (L.2.1 20 r0)), (1, .int x1)]) hl [0, 1] rfl) hv_r0 hv_r0
  · cases h
    exact mm_goT (x := xe + 1) (mm_goS (As := [.int x1]) (rest := [.ref (L.2.1 20 r0)]) hX (c_Mo_isCopy hf3) yw_Mo_isCopy wt_710 wt_711 wt_8 hP hF rfl hl.1 (Nat.le_of_ble_eq_true rfl) (by decide) (by decide) hRc hRs d_Mo_place_2) hF hex hlk
set_option maxRecDepth 100000 in
set_option maxHeartbeats 4000000 in
theorem c_Mo_place {l : Launch} {L : mm_L} {g g' : mm_M} {eo : Nat} {v : Int32} {r0 : Nat} {x1 : Int32} (hv_r0 : mm_lv L.1 20 r0) (h : f_Mo_place L.1 g r0 x1 = some (eo, v, g')) : mm_C l y_Mo_place prog_9_method_36_code 2 (some .int) 1 23 L [.ref (L.2.1 20 r0), .int x1] g (mm_oi eo v) g' := by
  intro p e R s m below meth c hX hP
  refine mm_enter (Nat.le_of_ble_eq_true rfl) fun ls hl => ?_
  exact w_Mo_place hX h hP (fun q hq => by cases hq) (lv_sub (l' := [(0, .ref (L.2.1 20 r0)), (1, .int x1)]) hl [0, 1] rfl) hv_r0
def f_Mo_chain_b37 (n : Nat) (g : mm_M) (t0 : Int32) : Option (Nat × Int32 × mm_M) :=
  some (0, t0, g)
set_option maxRecDepth 100000 in
set_option maxHeartbeats 4000000 in
theorem w_Mo_chain_b37 {p : Program} {l : Launch} {e : Env} {R : Room} {s : State} {m : MethodId} {args : Array Value} {below : List Frame} {meth : Method} {c : Code} {L : mm_L} {eo : Nat} {v : Int32} {g' : mm_M} {g : mm_M} {t0 : Int32} {H : Heap} {locs : List Loc} {ls : Array Slot} (hX : mm_X L prog_9_method_37_code 5 "LoanArrowsModel" (some .int) 1 23 p l R s m meth c) (h : f_Mo_chain_b37 L.1 g t0 = some (eo, v, g')) (hP : mm_P L g H) (hF : ∀ q ∈ locs, mm_F L q.base) (hl : lv_has ls 5 []) : W p l e R s m args below meth c H locs 0 0 (mm_Q below L s (mm_oi eo v) g') (F0 m 37 ls [.int t0]) := by
  have hX0 := hX
  obtain ⟨hx, hb, hml, hown, hr, hlk, hex, hRf, hRl, hRc, hRs, hJ, hK, hst, h00⟩ := hX0
  unfold f_Mo_chain_b37 at h
  cases h
  exact mm_iret hx hb hr hlk hP hF d_Mo_chain_37
def f_Mo_chain_b25 (n : Nat) (g : mm_M) (x1 : Int32) : Option (Nat × Int32 × mm_M) :=
  mm_bd (f_Mo_isCopy n g x1) 0 (fun z1 g2 => (if z1 = 0 then f_Mo_chain_b37 n g2 0 else f_Mo_chain_b37 n g2 (-1)))
set_option maxRecDepth 100000 in
set_option maxHeartbeats 4000000 in
theorem w_Mo_chain_b25 {p : Program} {l : Launch} {e : Env} {R : Room} {s : State} {m : MethodId} {args : Array Value} {below : List Frame} {meth : Method} {c : Code} {L : mm_L} {eo : Nat} {v : Int32} {g' : mm_M} {g : mm_M} {x1 : Int32} {H : Heap} {locs : List Loc} {ls : Array Slot} (hX : mm_X L prog_9_method_37_code 5 "LoanArrowsModel" (some .int) 1 23 p l R s m meth c) (h : f_Mo_chain_b25 L.1 g x1 = some (eo, v, g')) (hP : mm_P L g H) (hF : ∀ q ∈ locs, mm_F L q.base) (hl : lv_has ls 5 [(1, .int x1)]) : W p l e R s m args below meth c H locs 0 0 (mm_Q below L s (mm_oi eo v) g') (F0 m 25 ls []) := by
  have hX0 := hX
  obtain ⟨hx, hb, hml, hown, hr, hlk, hex, hRf, hRl, hRc, hRs, hJ, hK, hst, h00⟩ := hX0
  unfold f_Mo_chain_b25 at h
  refine lv_iload_n hx hb d_Mo_chain_25 rfl (lv_at hl 0 rfl) ?_
  rcases mm_bd_some h with ⟨z1, g2, hf3, h⟩ | ⟨xe, z1, g2, hf3, h⟩
  · refine mm_goR (v := (some (.int z1))) (mm_goS (As := [.int x1]) (rest := []) hX (c_Mo_isCopy hf3) yw_Mo_isCopy wt_710 wt_711 wt_8 hP hF rfl hl.1 (Nat.le_of_ble_eq_true rfl) (by decide) (by decide) hRc hRs d_Mo_chain_26) hF (fun H locs hP hF _ => ?_)
    refine lv_if_eq (tgt := 36) hx hb d_Mo_chain_29 rfl (fun hc => ?_) (fun hc => ?_)
    · have h := mm_pos hc h
      refine lv_iconst (v := 0) hx hb d_Mo_chain_36 (by decide) ?_
      exact w_Mo_chain_b37 hX h hP hF (lv_sub (l' := []) hl [] rfl)
    · have h := mm_neg hc h
      refine lv_iconst (v := -1) hx hb d_Mo_chain_32 (by decide) ?_
      refine lv_goto (tgt := 37) hx hb d_Mo_chain_33 rfl ?_
      exact w_Mo_chain_b37 hX h hP hF (lv_sub (l' := []) hl [] rfl)
  · cases h
    exact mm_goT (x := xe + 1) (mm_goS (As := [.int x1]) (rest := []) hX (c_Mo_isCopy hf3) yw_Mo_isCopy wt_710 wt_711 wt_8 hP hF rfl hl.1 (Nat.le_of_ble_eq_true rfl) (by decide) (by decide) hRc hRs d_Mo_chain_26) hF hex hlk
def f_Mo_chain_b93 (n : Nat) (g : mm_M) (t0 : Int32) : Option (Nat × Int32 × mm_M) :=
  some (0, t0, g)
set_option maxRecDepth 100000 in
set_option maxHeartbeats 4000000 in
theorem w_Mo_chain_b93 {p : Program} {l : Launch} {e : Env} {R : Room} {s : State} {m : MethodId} {args : Array Value} {below : List Frame} {meth : Method} {c : Code} {L : mm_L} {eo : Nat} {v : Int32} {g' : mm_M} {g : mm_M} {t0 : Int32} {H : Heap} {locs : List Loc} {ls : Array Slot} (hX : mm_X L prog_9_method_37_code 5 "LoanArrowsModel" (some .int) 1 23 p l R s m meth c) (h : f_Mo_chain_b93 L.1 g t0 = some (eo, v, g')) (hP : mm_P L g H) (hF : ∀ q ∈ locs, mm_F L q.base) (hl : lv_has ls 5 []) : W p l e R s m args below meth c H locs 0 0 (mm_Q below L s (mm_oi eo v) g') (F0 m 93 ls [.int t0]) := by
  have hX0 := hX
  obtain ⟨hx, hb, hml, hown, hr, hlk, hex, hRf, hRl, hRc, hRs, hJ, hK, hst, h00⟩ := hX0
  unfold f_Mo_chain_b93 at h
  cases h
  exact mm_iret hx hb hr hlk hP hF d_Mo_chain_93
def f_Mo_chain_b82 (n : Nat) (g : mm_M) (x2 : Int32) (x3 : Int32) : Option (Nat × Int32 × mm_M) :=
  (if x2 ≤ 40 then f_Mo_chain_b93 n g x3 else f_Mo_chain_b93 n g (-1))
set_option maxRecDepth 100000 in
set_option maxHeartbeats 4000000 in
theorem w_Mo_chain_b82 {p : Program} {l : Launch} {e : Env} {R : Room} {s : State} {m : MethodId} {args : Array Value} {below : List Frame} {meth : Method} {c : Code} {L : mm_L} {eo : Nat} {v : Int32} {g' : mm_M} {g : mm_M} {x2 : Int32} {x3 : Int32} {H : Heap} {locs : List Loc} {ls : Array Slot} (hX : mm_X L prog_9_method_37_code 5 "LoanArrowsModel" (some .int) 1 23 p l R s m meth c) (h : f_Mo_chain_b82 L.1 g x2 x3 = some (eo, v, g')) (hP : mm_P L g H) (hF : ∀ q ∈ locs, mm_F L q.base) (hl : lv_has ls 5 [(2, .int x2), (3, .int x3)]) : W p l e R s m args below meth c H locs 0 0 (mm_Q below L s (mm_oi eo v) g') (F0 m 82 ls []) := by
  have hX0 := hX
  obtain ⟨hx, hb, hml, hown, hr, hlk, hex, hRf, hRl, hRc, hRs, hJ, hK, hst, h00⟩ := hX0
  unfold f_Mo_chain_b82 at h
  refine lv_iload_n hx hb d_Mo_chain_82 rfl (lv_at hl 0 rfl) ?_
  refine lv_bipush (v := 40) hx hb d_Mo_chain_83 (by decide) ?_
  refine lv_icmp_le (tgt := 92) hx hb d_Mo_chain_85 rfl (fun hc => ?_) (fun hc => ?_)
  · have h := mm_pos hc h
    refine lv_iload_n hx hb d_Mo_chain_92 rfl (lv_at hl 1 rfl) ?_
    exact w_Mo_chain_b93 hX h hP hF (lv_sub (l' := []) hl [] rfl)
  · have h := mm_neg hc h
    refine lv_iconst (v := -1) hx hb d_Mo_chain_88 (by decide) ?_
    refine lv_goto (tgt := 93) hx hb d_Mo_chain_89 rfl ?_
    exact w_Mo_chain_b93 hX h hP hF (lv_sub (l' := []) hl [] rfl)
def f_Mo_chain_l48 (n : Nat) : Nat → mm_M → Nat → Int32 → Int32 → Int32 → Int32 → Option (Nat × Int32 × mm_M)
  | 0, _, _, _, _, _, _ => none
  | k + 1, g, r0, x1, x2, x3, x4 => (if x2 ≤ x4 then f_Mo_chain_b82 n g x2 x3 else (if 40 ≤ x4 then f_Mo_chain_b82 n g x2 x3 else (if x3 < 0 then f_Mo_chain_b82 n g x2 x3 else mm_bd (f_Mo_at n g x3 x1) 0 (fun z1 g2 => mm_ix z1 36 (f_Mo_chain_l48 n k g2 r0 x1 x2 (g2 25 0 z1.toNatClampNeg) (x4 + 1))))))
set_option maxRecDepth 100000 in
set_option maxHeartbeats 4000000 in
theorem w_Mo_chain_l48 {p : Program} {l : Launch} {e : Env} {R : Room} {s : State} {m : MethodId} {args : Array Value} {below : List Frame} {meth : Method} {c : Code} {L : mm_L} {eo : Nat} {v : Int32} {g' : mm_M} (hX : mm_X L prog_9_method_37_code 5 "LoanArrowsModel" (some .int) 1 23 p l R s m meth c) : ∀ (k : Nat) (g : mm_M) (r0 : Nat) (x1 : Int32) (x2 : Int32) (x3 : Int32) (x4 : Int32) (H : Heap) (locs : List Loc) (ls : Array Slot), f_Mo_chain_l48 L.1 k g r0 x1 x2 x3 x4 = some (eo, v, g') → mm_P L g H → (∀ q ∈ locs, mm_F L q.base) → lv_has ls 5 [(0, .ref (L.2.1 20 r0)), (1, .int x1), (2, .int x2), (3, .int x3), (4, .int x4)] → mm_lv L.1 20 r0 → W p l e R s m args below meth c H locs 0 0 (mm_Q below L s (mm_oi eo v) g') (F0 m 48 ls []) := by
  have hX0 := hX
  obtain ⟨hx, hb, hml, hown, hr, hlk, hex, hRf, hRl, hRc, hRs, hJ, hK, hst, h00⟩ := hX0
  intro k
  induction k with
  | zero =>
    intro g r0 x1 x2 x3 x4 H locs ls h hP hF hl hv_r0
    rw [f_Mo_chain_l48] at h
    cases h
  | succ k ih =>
    intro g r0 x1 x2 x3 x4 H locs ls h hP hF hl hv_r0
    rw [f_Mo_chain_l48] at h
    refine lv_iload hx hb d_Mo_chain_48 (lv_at hl 4 rfl) ?_
    refine lv_iload_n hx hb d_Mo_chain_50 rfl (lv_at hl 2 rfl) ?_
    refine lv_icmp_ge (tgt := 82) hx hb d_Mo_chain_51 rfl (fun hc => ?_) (fun hc => ?_)
    · have h := mm_pos hc h
      exact w_Mo_chain_b82 hX h hP hF (lv_sub (l' := [(2, .int x2), (3, .int x3)]) hl [2, 3] rfl)
    · have h := mm_neg hc h
      refine lv_iload hx hb d_Mo_chain_54 (lv_at hl 4 rfl) ?_
      refine lv_bipush (v := 40) hx hb d_Mo_chain_56 (by decide) ?_
      refine lv_icmp_ge (tgt := 82) hx hb d_Mo_chain_58 rfl (fun hc => ?_) (fun hc => ?_)
      · have h := mm_pos hc h
        exact w_Mo_chain_b82 hX h hP hF (lv_sub (l' := [(2, .int x2), (3, .int x3)]) hl [2, 3] rfl)
      · have h := mm_neg hc h
        refine lv_iload_n hx hb d_Mo_chain_61 rfl (lv_at hl 3 rfl) ?_
        refine lv_if_lt (tgt := 82) hx hb d_Mo_chain_62 rfl (fun hc => ?_) (fun hc => ?_)
        · have h := mm_pos hc h
          exact w_Mo_chain_b82 hX h hP hF (lv_sub (l' := [(2, .int x2), (3, .int x3)]) hl [2, 3] rfl)
        · have h := mm_neg hc h
          refine lv_aload_n hx hb d_Mo_chain_65 rfl (lv_at hl 0 rfl) ?_
          refine mm_get (h := 20) (i := r0) 6 hX hP hv_r0 rfl rfl uin_20 (by decide) ⟨rfl, rfl, rfl⟩ wt_618 rfl d_Mo_chain_66 ?_
          refine lv_iload_n hx hb d_Mo_chain_69 rfl (lv_at hl 3 rfl) ?_
          refine lv_iload_n hx hb d_Mo_chain_70 rfl (lv_at hl 1 rfl) ?_
          rcases mm_bd_some h with ⟨z1, g2, hf3, h⟩ | ⟨xe, z1, g2, hf3, h⟩
          · refine mm_goR (v := (some (.int z1))) (mm_goS (As := [.int x3, .int x1]) (rest := [.ref (L.2.1 25 0)]) hX (c_Mo_at hf3) yw_Mo_at wt_717 wt_718 wt_8 hP hF rfl hl.1 (Nat.le_of_ble_eq_true rfl) (by decide) (by decide) hRc hRs d_Mo_chain_71) hF (fun H locs hP hF _ => ?_)
            obtain ⟨hin, h⟩ := mm_ix_some h
            refine mm_iald (h := 25) (i := 0) hX hP mm_ls25 (fun _ => rfl) rfl hin d_Mo_chain_74 ?_
            refine lv_istore_n hx hb d_Mo_chain_75 rfl hl (Nat.lt_of_lt_of_le (Nat.lt_succ_self _) (Nat.le_of_ble_eq_true rfl)) rfl (fun ls hl => ?_)
            have hl : lv_has ls 5 [(3, .int (g2 25 0 z1.toNatClampNeg)), (0, .ref (L.2.1 20 r0)), (1, .int x1), (2, .int x2), (4, .int x4)] := hl
            refine lv_iinc (k := 4) (v := (x4 + 1)) hx hb d_Mo_chain_76 hl rfl (congrArg (fun z => x4 + z) mm_i1) (Nat.lt_of_lt_of_le (Nat.lt_succ_self _) (Nat.le_of_ble_eq_true rfl)) rfl (fun ls hl => ?_)
            have hl : lv_has ls 5 [(4, .int (x4 + 1)), (3, .int (g2 25 0 z1.toNatClampNeg)), (0, .ref (L.2.1 20 r0)), (1, .int x1), (2, .int x2)] := hl
            refine lv_goto (tgt := 48) hx hb d_Mo_chain_79 rfl ?_
            exact ih _ _ _ _ _ _ _ _ _ h hP hF (lv_sub (l' := [(0, .ref (L.2.1 20 r0)), (1, .int x1), (2, .int x2), (3, .int (g2 25 0 z1.toNatClampNeg)), (4, .int (x4 + 1))]) hl [2, 3, 4, 1, 0] rfl) hv_r0
          · cases h
            exact mm_goT (x := xe + 1) (mm_goS (As := [.int x3, .int x1]) (rest := [.ref (L.2.1 25 0)]) hX (c_Mo_at hf3) yw_Mo_at wt_717 wt_718 wt_8 hP hF rfl hl.1 (Nat.le_of_ble_eq_true rfl) (by decide) (by decide) hRc hRs d_Mo_chain_71) hF hex hlk
def f_Mo_chain_b13 (n : Nat) (g : mm_M) (r0 : Nat) (x1 : Int32) (x2 : Int32) (u0 : Nat) (t1 : Int32) : Option (Nat × Int32 × mm_M) :=
  mm_bd (f_Mo_refused n g u0 t1 0 0) 0 (fun z1 g2 => (if z1 = 0 then (if 0 ≤ x2 then mm_ix x1 3 (f_Mo_chain_l48 n 4096 g2 r0 x1 x2 (g2 30 0 x1.toNatClampNeg) 0) else f_Mo_chain_b25 n g2 x1) else f_Mo_chain_b25 n g2 x1))
set_option maxRecDepth 100000 in
set_option maxHeartbeats 4000000 in
theorem w_Mo_chain_b13 {p : Program} {l : Launch} {e : Env} {R : Room} {s : State} {m : MethodId} {args : Array Value} {below : List Frame} {meth : Method} {c : Code} {L : mm_L} {eo : Nat} {v : Int32} {g' : mm_M} {g : mm_M} {r0 : Nat} {x1 : Int32} {x2 : Int32} {u0 : Nat} {t1 : Int32} {H : Heap} {locs : List Loc} {ls : Array Slot} (hX : mm_X L prog_9_method_37_code 5 "LoanArrowsModel" (some .int) 1 23 p l R s m meth c) (h : f_Mo_chain_b13 L.1 g r0 x1 x2 u0 t1 = some (eo, v, g')) (hP : mm_P L g H) (hF : ∀ q ∈ locs, mm_F L q.base) (hl : lv_has ls 5 [(0, .ref (L.2.1 20 r0)), (1, .int x1), (2, .int x2)]) (hv_r0 : mm_lv L.1 20 r0) (hv_u0 : mm_lv L.1 20 u0) : W p l e R s m args below meth c H locs 0 0 (mm_Q below L s (mm_oi eo v) g') (F0 m 13 ls [.int t1, .ref (L.2.1 20 u0)]) := by
  have hX0 := hX
  obtain ⟨hx, hb, hml, hown, hr, hlk, hex, hRf, hRl, hRc, hRs, hJ, hK, hst, h00⟩ := hX0
  unfold f_Mo_chain_b13 at h
  refine lv_iconst (v := 0) hx hb d_Mo_chain_13 (by decide) ?_
  refine lv_iconst (v := 0) hx hb d_Mo_chain_14 (by decide) ?_
  rcases mm_bd_some h with ⟨z1, g2, hf3, h⟩ | ⟨xe, z1, g2, hf3, h⟩
  · refine mm_goR (v := (some (.int z1))) (mm_goV (As := [.int t1, .int 0, .int 0]) (rest := []) hX (c_Mo_refused hv_u0 hf3) yw_Mo_refused wt_713 wt_715 ws_0_13 hP hF (mm_recv (h := 20) (i := u0) hX hP hv_u0 rfl rfl) rfl hl.1 (Nat.le_of_ble_eq_true rfl) (by decide) (by decide) hRc hRs d_Mo_chain_15) hF (fun H locs hP hF _ => ?_)
    refine lv_if_ne (tgt := 25) hx hb d_Mo_chain_18 rfl (fun hc => ?_) (fun hc => ?_)
    · have h := mm_neg hc h
      exact w_Mo_chain_b25 hX h hP hF (lv_sub (l' := [(1, .int x1)]) hl [1] rfl)
    · have h := mm_pos hc h
      refine lv_iload_n hx hb d_Mo_chain_21 rfl (lv_at hl 2 rfl) ?_
      refine lv_if_ge (tgt := 38) hx hb d_Mo_chain_22 rfl (fun hc => ?_) (fun hc => ?_)
      · have h := mm_pos hc h
        refine lv_aload_n hx hb d_Mo_chain_38 rfl (lv_at hl 0 rfl) ?_
        refine mm_get (h := 20) (i := r0) 11 hX hP hv_r0 rfl rfl uin_20 (by decide) ⟨rfl, rfl, rfl⟩ wt_623 rfl d_Mo_chain_39 ?_
        refine lv_iload_n hx hb d_Mo_chain_42 rfl (lv_at hl 1 rfl) ?_
        obtain ⟨hin, h⟩ := mm_ix_some h
        refine mm_iald (h := 30) (i := 0) hX hP mm_ls30 (fun _ => rfl) rfl hin d_Mo_chain_43 ?_
        refine lv_istore_n hx hb d_Mo_chain_44 rfl hl (Nat.lt_of_lt_of_le (Nat.lt_succ_self _) (Nat.le_of_ble_eq_true rfl)) rfl (fun ls hl => ?_)
        have hl : lv_has ls 5 [(3, .int (g2 30 0 x1.toNatClampNeg)), (0, .ref (L.2.1 20 r0)), (1, .int x1), (2, .int x2)] := hl
        refine lv_iconst (v := 0) hx hb d_Mo_chain_45 (by decide) ?_
        refine lv_istore hx hb d_Mo_chain_46 hl (Nat.lt_of_lt_of_le (Nat.lt_succ_self _) (Nat.le_of_ble_eq_true rfl)) rfl (fun ls hl => ?_)
        have hl : lv_has ls 5 [(4, .int 0), (3, .int (g2 30 0 x1.toNatClampNeg)), (0, .ref (L.2.1 20 r0)), (1, .int x1), (2, .int x2)] := hl
        exact w_Mo_chain_l48 hX _ _ _ _ _ _ _ _ _ _ h hP hF (lv_sub (l' := [(0, .ref (L.2.1 20 r0)), (1, .int x1), (2, .int x2), (3, .int (g2 30 0 x1.toNatClampNeg)), (4, .int 0)]) hl [2, 3, 4, 1, 0] rfl) hv_r0
      · have h := mm_neg hc h
        exact w_Mo_chain_b25 hX h hP hF (lv_sub (l' := [(1, .int x1)]) hl [1] rfl)
  · cases h
    exact mm_goT (x := xe + 1) (mm_goV (As := [.int t1, .int 0, .int 0]) (rest := []) hX (c_Mo_refused hv_u0 hf3) yw_Mo_refused wt_713 wt_715 ws_0_13 hP hF (mm_recv (h := 20) (i := u0) hX hP hv_u0 rfl rfl) rfl hl.1 (Nat.le_of_ble_eq_true rfl) (by decide) (by decide) hRc hRs d_Mo_chain_15) hF hex hlk
def f_Mo_chain (n : Nat) (g : mm_M) (r0 : Nat) (x1 : Int32) (x2 : Int32) : Option (Nat × Int32 × mm_M) :=
  mm_bd (f_Mo_isCopy n g x1) 0 (fun z1 g2 => (if z1 = 0 then f_Mo_chain_b13 n g2 r0 x1 x2 r0 1 else f_Mo_chain_b13 n g2 r0 x1 x2 r0 0))
set_option maxRecDepth 100000 in
set_option maxHeartbeats 4000000 in
theorem w_Mo_chain {p : Program} {l : Launch} {e : Env} {R : Room} {s : State} {m : MethodId} {args : Array Value} {below : List Frame} {meth : Method} {c : Code} {L : mm_L} {eo : Nat} {v : Int32} {g' : mm_M} {g : mm_M} {r0 : Nat} {x1 : Int32} {x2 : Int32} {H : Heap} {locs : List Loc} {ls : Array Slot} (hX : mm_X L prog_9_method_37_code 5 "LoanArrowsModel" (some .int) 1 23 p l R s m meth c) (h : f_Mo_chain L.1 g r0 x1 x2 = some (eo, v, g')) (hP : mm_P L g H) (hF : ∀ q ∈ locs, mm_F L q.base) (hl : lv_has ls 5 [(0, .ref (L.2.1 20 r0)), (1, .int x1), (2, .int x2)]) (hv_r0 : mm_lv L.1 20 r0) : W p l e R s m args below meth c H locs 0 0 (mm_Q below L s (mm_oi eo v) g') (F0 m 0 ls []) := by
  have hX0 := hX
  obtain ⟨hx, hb, hml, hown, hr, hlk, hex, hRf, hRl, hRc, hRs, hJ, hK, hst, h00⟩ := hX0
  unfold f_Mo_chain at h
  refine lv_aload_n hx hb d_Mo_chain_0 rfl (lv_at hl 0 rfl) ?_
  refine lv_iload_n hx hb d_Mo_chain_1 rfl (lv_at hl 1 rfl) ?_
  rcases mm_bd_some h with ⟨z1, g2, hf3, h⟩ | ⟨xe, z1, g2, hf3, h⟩
  · refine mm_goR (v := (some (.int z1))) (mm_goS (As := [.int x1]) (rest := [.ref (L.2.1 20 r0)]) hX (c_Mo_isCopy hf3) yw_Mo_isCopy wt_710 wt_711 wt_8 hP hF rfl hl.1 (Nat.le_of_ble_eq_true rfl) (by decide) (by decide) hRc hRs d_Mo_chain_2) hF (fun H locs hP hF _ => ?_)
    refine lv_if_ne (tgt := 12) hx hb d_Mo_chain_5 rfl (fun hc => ?_) (fun hc => ?_)
    · have h := mm_neg hc h
      refine lv_iconst (v := 0) hx hb d_Mo_chain_12 (by decide) ?_
      exact w_Mo_chain_b13 hX h hP hF (lv_sub (l' := [(0, .ref (L.2.1 20 r0)), (1, .int x1), (2, .int x2)]) hl [0, 1, 2] rfl) hv_r0 hv_r0
    · have h := mm_pos hc h
      refine lv_iconst (v := 1) hx hb d_Mo_chain_8 (by decide) ?_
      refine lv_goto (tgt := 13) hx hb d_Mo_chain_9 rfl ?_
      exact w_Mo_chain_b13 hX h hP hF (lv_sub (l' := [(0, .ref (L.2.1 20 r0)), (1, .int x1), (2, .int x2)]) hl [0, 1, 2] rfl) hv_r0 hv_r0
  · cases h
    exact mm_goT (x := xe + 1) (mm_goS (As := [.int x1]) (rest := [.ref (L.2.1 20 r0)]) hX (c_Mo_isCopy hf3) yw_Mo_isCopy wt_710 wt_711 wt_8 hP hF rfl hl.1 (Nat.le_of_ble_eq_true rfl) (by decide) (by decide) hRc hRs d_Mo_chain_2) hF hex hlk
set_option maxRecDepth 100000 in
set_option maxHeartbeats 4000000 in
theorem c_Mo_chain {l : Launch} {L : mm_L} {g g' : mm_M} {eo : Nat} {v : Int32} {r0 : Nat} {x1 : Int32} {x2 : Int32} (hv_r0 : mm_lv L.1 20 r0) (h : f_Mo_chain L.1 g r0 x1 x2 = some (eo, v, g')) : mm_C l y_Mo_chain prog_9_method_37_code 5 (some .int) 1 23 L [.ref (L.2.1 20 r0), .int x1, .int x2] g (mm_oi eo v) g' := by
  intro p e R s m below meth c hX hP
  refine mm_enter (Nat.le_of_ble_eq_true rfl) fun ls hl => ?_
  exact w_Mo_chain hX h hP (fun q hq => by cases hq) (lv_sub (l' := [(0, .ref (L.2.1 20 r0)), (1, .int x1), (2, .int x2)]) hl [0, 1, 2] rfl) hv_r0
def f_Mo_served_b53 (n : Nat) (g : mm_M) (t0 : Int32) : Option (Nat × Int32 × mm_M) :=
  some (0, t0, g)
set_option maxRecDepth 100000 in
set_option maxHeartbeats 4000000 in
theorem w_Mo_served_b53 {p : Program} {l : Launch} {e : Env} {R : Room} {s : State} {m : MethodId} {args : Array Value} {below : List Frame} {meth : Method} {c : Code} {L : mm_L} {eo : Nat} {v : Int32} {g' : mm_M} {g : mm_M} {t0 : Int32} {H : Heap} {locs : List Loc} {ls : Array Slot} (hX : mm_X L prog_9_method_38_code 3 "LoanArrowsModel" (some .int) 1 23 p l R s m meth c) (h : f_Mo_served_b53 L.1 g t0 = some (eo, v, g')) (hP : mm_P L g H) (hF : ∀ q ∈ locs, mm_F L q.base) (hl : lv_has ls 3 []) : W p l e R s m args below meth c H locs 0 0 (mm_Q below L s (mm_oi eo v) g') (F0 m 53 ls [.int t0]) := by
  have hX0 := hX
  obtain ⟨hx, hb, hml, hown, hr, hlk, hex, hRf, hRl, hRc, hRs, hJ, hK, hst, h00⟩ := hX0
  unfold f_Mo_served_b53 at h
  cases h
  exact mm_iret hx hb hr hlk hP hF d_Mo_served_53
def f_Mo_served_b52 (n : Nat) (g : mm_M)  : Option (Nat × Int32 × mm_M) :=
  f_Mo_served_b53 n g (-1)
set_option maxRecDepth 100000 in
set_option maxHeartbeats 4000000 in
theorem w_Mo_served_b52 {p : Program} {l : Launch} {e : Env} {R : Room} {s : State} {m : MethodId} {args : Array Value} {below : List Frame} {meth : Method} {c : Code} {L : mm_L} {eo : Nat} {v : Int32} {g' : mm_M} {g : mm_M} {H : Heap} {locs : List Loc} {ls : Array Slot} (hX : mm_X L prog_9_method_38_code 3 "LoanArrowsModel" (some .int) 1 23 p l R s m meth c) (h : f_Mo_served_b52 L.1 g = some (eo, v, g')) (hP : mm_P L g H) (hF : ∀ q ∈ locs, mm_F L q.base) (hl : lv_has ls 3 []) : W p l e R s m args below meth c H locs 0 0 (mm_Q below L s (mm_oi eo v) g') (F0 m 52 ls []) := by
  have hX0 := hX
  obtain ⟨hx, hb, hml, hown, hr, hlk, hex, hRf, hRl, hRc, hRs, hJ, hK, hst, h00⟩ := hX0
  unfold f_Mo_served_b52 at h
  refine lv_iconst (v := -1) hx hb d_Mo_served_52 (by decide) ?_
  exact w_Mo_served_b53 hX h hP hF (lv_sub (l' := []) hl [] rfl)
def f_Mo_served_b13 (n : Nat) (g : mm_M) (r0 : Nat) (x1 : Int32) (x2 : Int32) (u0 : Nat) (t1 : Int32) : Option (Nat × Int32 × mm_M) :=
  mm_bd (f_Mo_refused n g u0 t1 0 0) 0 (fun z1 g2 => (if z1 = 0 then (if x2 < 0 then f_Mo_served_b52 n g2 else mm_ix x1 3 ((if (g2 32 0 x1.toNatClampNeg) ≤ x2 then f_Mo_served_b52 n g2 else mm_ix ((200 * x1) + x2) 600 (f_Mo_served_b53 n g2 (g2 33 0 ((200 * x1) + x2).toNatClampNeg))))) else some (0, 0, g2)))
set_option maxRecDepth 100000 in
set_option maxHeartbeats 4000000 in
theorem w_Mo_served_b13 {p : Program} {l : Launch} {e : Env} {R : Room} {s : State} {m : MethodId} {args : Array Value} {below : List Frame} {meth : Method} {c : Code} {L : mm_L} {eo : Nat} {v : Int32} {g' : mm_M} {g : mm_M} {r0 : Nat} {x1 : Int32} {x2 : Int32} {u0 : Nat} {t1 : Int32} {H : Heap} {locs : List Loc} {ls : Array Slot} (hX : mm_X L prog_9_method_38_code 3 "LoanArrowsModel" (some .int) 1 23 p l R s m meth c) (h : f_Mo_served_b13 L.1 g r0 x1 x2 u0 t1 = some (eo, v, g')) (hP : mm_P L g H) (hF : ∀ q ∈ locs, mm_F L q.base) (hl : lv_has ls 3 [(0, .ref (L.2.1 20 r0)), (1, .int x1), (2, .int x2)]) (hv_r0 : mm_lv L.1 20 r0) (hv_u0 : mm_lv L.1 20 u0) : W p l e R s m args below meth c H locs 0 0 (mm_Q below L s (mm_oi eo v) g') (F0 m 13 ls [.int t1, .ref (L.2.1 20 u0)]) := by
  have hX0 := hX
  obtain ⟨hx, hb, hml, hown, hr, hlk, hex, hRf, hRl, hRc, hRs, hJ, hK, hst, h00⟩ := hX0
  unfold f_Mo_served_b13 at h
  refine lv_iconst (v := 0) hx hb d_Mo_served_13 (by decide) ?_
  refine lv_iconst (v := 0) hx hb d_Mo_served_14 (by decide) ?_
  rcases mm_bd_some h with ⟨z1, g2, hf3, h⟩ | ⟨xe, z1, g2, hf3, h⟩
  · refine mm_goR (v := (some (.int z1))) (mm_goV (As := [.int t1, .int 0, .int 0]) (rest := []) hX (c_Mo_refused hv_u0 hf3) yw_Mo_refused wt_713 wt_715 ws_0_13 hP hF (mm_recv (h := 20) (i := u0) hX hP hv_u0 rfl rfl) rfl hl.1 (Nat.le_of_ble_eq_true rfl) (by decide) (by decide) hRc hRs d_Mo_served_15) hF (fun H locs hP hF _ => ?_)
    refine lv_if_eq (tgt := 23) hx hb d_Mo_served_18 rfl (fun hc => ?_) (fun hc => ?_)
    · have h := mm_pos hc h
      refine lv_iload_n hx hb d_Mo_served_23 rfl (lv_at hl 2 rfl) ?_
      refine lv_if_lt (tgt := 52) hx hb d_Mo_served_24 rfl (fun hc => ?_) (fun hc => ?_)
      · have h := mm_pos hc h
        exact w_Mo_served_b52 hX h hP hF (lv_sub (l' := []) hl [] rfl)
      · have h := mm_neg hc h
        refine lv_iload_n hx hb d_Mo_served_27 rfl (lv_at hl 2 rfl) ?_
        refine lv_aload_n hx hb d_Mo_served_28 rfl (lv_at hl 0 rfl) ?_
        refine mm_get (h := 20) (i := r0) 13 hX hP hv_r0 rfl rfl uin_20 (by decide) ⟨rfl, rfl, rfl⟩ wt_625 rfl d_Mo_served_29 ?_
        refine lv_iload_n hx hb d_Mo_served_32 rfl (lv_at hl 1 rfl) ?_
        obtain ⟨hin, h⟩ := mm_ix_some h
        refine mm_iald (h := 32) (i := 0) hX hP mm_ls32 (fun _ => rfl) rfl hin d_Mo_served_33 ?_
        refine lv_icmp_ge (tgt := 52) hx hb d_Mo_served_34 rfl (fun hc => ?_) (fun hc => ?_)
        · have h := mm_pos hc h
          exact w_Mo_served_b52 hX h hP hF (lv_sub (l' := []) hl [] rfl)
        · have h := mm_neg hc h
          refine lv_aload_n hx hb d_Mo_served_37 rfl (lv_at hl 0 rfl) ?_
          refine mm_get (h := 20) (i := r0) 14 hX hP hv_r0 rfl rfl uin_20 (by decide) ⟨rfl, rfl, rfl⟩ wt_626 rfl d_Mo_served_38 ?_
          refine lv_sipush (v := 200) hx hb d_Mo_served_41 (by decide) ?_
          refine lv_iload_n hx hb d_Mo_served_44 rfl (lv_at hl 1 rfl) ?_
          refine lv_imul hx hb d_Mo_served_45 ?_
          refine lv_iload_n hx hb d_Mo_served_46 rfl (lv_at hl 2 rfl) ?_
          refine lv_iadd hx hb d_Mo_served_47 ?_
          obtain ⟨hin, h⟩ := mm_ix_some h
          refine mm_iald (h := 33) (i := 0) hX hP mm_ls33 (fun _ => rfl) rfl hin d_Mo_served_48 ?_
          refine lv_goto (tgt := 53) hx hb d_Mo_served_49 rfl ?_
          exact w_Mo_served_b53 hX h hP hF (lv_sub (l' := []) hl [] rfl)
    · have h := mm_neg hc h
      refine lv_iconst (v := 0) hx hb d_Mo_served_21 (by decide) ?_
      cases h
      exact mm_iret hx hb hr hlk hP hF d_Mo_served_22
  · cases h
    exact mm_goT (x := xe + 1) (mm_goV (As := [.int t1, .int 0, .int 0]) (rest := []) hX (c_Mo_refused hv_u0 hf3) yw_Mo_refused wt_713 wt_715 ws_0_13 hP hF (mm_recv (h := 20) (i := u0) hX hP hv_u0 rfl rfl) rfl hl.1 (Nat.le_of_ble_eq_true rfl) (by decide) (by decide) hRc hRs d_Mo_served_15) hF hex hlk
def f_Mo_served (n : Nat) (g : mm_M) (r0 : Nat) (x1 : Int32) (x2 : Int32) : Option (Nat × Int32 × mm_M) :=
  mm_bd (f_Mo_isCopy n g x1) 0 (fun z1 g2 => (if z1 = 0 then f_Mo_served_b13 n g2 r0 x1 x2 r0 1 else f_Mo_served_b13 n g2 r0 x1 x2 r0 0))
set_option maxRecDepth 100000 in
set_option maxHeartbeats 4000000 in
theorem w_Mo_served {p : Program} {l : Launch} {e : Env} {R : Room} {s : State} {m : MethodId} {args : Array Value} {below : List Frame} {meth : Method} {c : Code} {L : mm_L} {eo : Nat} {v : Int32} {g' : mm_M} {g : mm_M} {r0 : Nat} {x1 : Int32} {x2 : Int32} {H : Heap} {locs : List Loc} {ls : Array Slot} (hX : mm_X L prog_9_method_38_code 3 "LoanArrowsModel" (some .int) 1 23 p l R s m meth c) (h : f_Mo_served L.1 g r0 x1 x2 = some (eo, v, g')) (hP : mm_P L g H) (hF : ∀ q ∈ locs, mm_F L q.base) (hl : lv_has ls 3 [(0, .ref (L.2.1 20 r0)), (1, .int x1), (2, .int x2)]) (hv_r0 : mm_lv L.1 20 r0) : W p l e R s m args below meth c H locs 0 0 (mm_Q below L s (mm_oi eo v) g') (F0 m 0 ls []) := by
  have hX0 := hX
  obtain ⟨hx, hb, hml, hown, hr, hlk, hex, hRf, hRl, hRc, hRs, hJ, hK, hst, h00⟩ := hX0
  unfold f_Mo_served at h
  refine lv_aload_n hx hb d_Mo_served_0 rfl (lv_at hl 0 rfl) ?_
  refine lv_iload_n hx hb d_Mo_served_1 rfl (lv_at hl 1 rfl) ?_
  rcases mm_bd_some h with ⟨z1, g2, hf3, h⟩ | ⟨xe, z1, g2, hf3, h⟩
  · refine mm_goR (v := (some (.int z1))) (mm_goS (As := [.int x1]) (rest := [.ref (L.2.1 20 r0)]) hX (c_Mo_isCopy hf3) yw_Mo_isCopy wt_710 wt_711 wt_8 hP hF rfl hl.1 (Nat.le_of_ble_eq_true rfl) (by decide) (by decide) hRc hRs d_Mo_served_2) hF (fun H locs hP hF _ => ?_)
    refine lv_if_ne (tgt := 12) hx hb d_Mo_served_5 rfl (fun hc => ?_) (fun hc => ?_)
    · have h := mm_neg hc h
      refine lv_iconst (v := 0) hx hb d_Mo_served_12 (by decide) ?_
      exact w_Mo_served_b13 hX h hP hF (lv_sub (l' := [(0, .ref (L.2.1 20 r0)), (1, .int x1), (2, .int x2)]) hl [0, 1, 2] rfl) hv_r0 hv_r0
    · have h := mm_pos hc h
      refine lv_iconst (v := 1) hx hb d_Mo_served_8 (by decide) ?_
      refine lv_goto (tgt := 13) hx hb d_Mo_served_9 rfl ?_
      exact w_Mo_served_b13 hX h hP hF (lv_sub (l' := [(0, .ref (L.2.1 20 r0)), (1, .int x1), (2, .int x2)]) hl [0, 1, 2] rfl) hv_r0 hv_r0
  · cases h
    exact mm_goT (x := xe + 1) (mm_goS (As := [.int x1]) (rest := [.ref (L.2.1 20 r0)]) hX (c_Mo_isCopy hf3) yw_Mo_isCopy wt_710 wt_711 wt_8 hP hF rfl hl.1 (Nat.le_of_ble_eq_true rfl) (by decide) (by decide) hRc hRs d_Mo_served_2) hF hex hlk
set_option maxRecDepth 100000 in
set_option maxHeartbeats 4000000 in
theorem c_Mo_served {l : Launch} {L : mm_L} {g g' : mm_M} {eo : Nat} {v : Int32} {r0 : Nat} {x1 : Int32} {x2 : Int32} (hv_r0 : mm_lv L.1 20 r0) (h : f_Mo_served L.1 g r0 x1 x2 = some (eo, v, g')) : mm_C l y_Mo_served prog_9_method_38_code 3 (some .int) 1 23 L [.ref (L.2.1 20 r0), .int x1, .int x2] g (mm_oi eo v) g' := by
  intro p e R s m below meth c hX hP
  refine mm_enter (Nat.le_of_ble_eq_true rfl) fun ls hl => ?_
  exact w_Mo_served hX h hP (fun q hq => by cases hq) (lv_sub (l' := [(0, .ref (L.2.1 20 r0)), (1, .int x1), (2, .int x2)]) hl [0, 1, 2] rfl) hv_r0

def f_LA_requireCopy_b9 (n : Nat) (g : mm_M)  : Option (Nat × Int32 × mm_M) :=
  some (1, 0, g)
set_option maxRecDepth 100000 in
set_option maxHeartbeats 4000000 in
theorem w_LA_requireCopy_b9 {p : Program} {l : Launch} {e : Env} {R : Room} {s : State} {m : MethodId} {args : Array Value} {below : List Frame} {meth : Method} {c : Code} {L : mm_L} {eo : Nat} {v : Int32} {g' : mm_M} {g : mm_M} {H : Heap} {locs : List Loc} {ls : Array Slot} (hX : mm_X L prog_1_method_26_code 2 "LoanArrows" none 6 82 p l R s m meth c) (h : f_LA_requireCopy_b9 L.1 g = some (eo, v, g')) (hP : mm_P L g H) (hF : ∀ q ∈ locs, mm_F L q.base) (hl : lv_has ls 2 []) : W p l e R s m args below meth c H locs 0 0 (mm_Q below L s (mm_ov eo v) g') (F0 m 9 ls []) := by
  have hX0 := hX
  obtain ⟨hx, hb, hml, hown, hr, hlk, hex, hRf, hRl, hRc, hRs, hJ, hK, hst, h00⟩ := hX0
  unfold f_LA_requireCopy_b9 at h
  cases h
  exact mm_throw (x := 1) (names := mm_nm) hX hP hF wt_207 wt_208 wt_12 (show ("LoanArrows", 216, "no such copy") ∈ mm_str by decide +kernel) at_LA_153 (by decide +kernel) mm_nm_fit hl.1 (by decide) (by decide) d_LA_requireCopy_9 d_LA_requireCopy_12 d_LA_requireCopy_13 d_LA_requireCopy_15 d_LA_requireCopy_18
def f_LA_requireCopy (n : Nat) (g : mm_M) (x1 : Int32) : Option (Nat × Int32 × mm_M) :=
  (if x1 < 0 then f_LA_requireCopy_b9 n g else (if x1 < 3 then some (0, 0, g) else f_LA_requireCopy_b9 n g))
set_option maxRecDepth 100000 in
set_option maxHeartbeats 4000000 in
theorem w_LA_requireCopy {p : Program} {l : Launch} {e : Env} {R : Room} {s : State} {m : MethodId} {args : Array Value} {below : List Frame} {meth : Method} {c : Code} {L : mm_L} {eo : Nat} {v : Int32} {g' : mm_M} {g : mm_M} {x1 : Int32} {H : Heap} {locs : List Loc} {ls : Array Slot} (hX : mm_X L prog_1_method_26_code 2 "LoanArrows" none 6 82 p l R s m meth c) (h : f_LA_requireCopy L.1 g x1 = some (eo, v, g')) (hP : mm_P L g H) (hF : ∀ q ∈ locs, mm_F L q.base) (hl : lv_has ls 2 [(1, .int x1)]) : W p l e R s m args below meth c H locs 0 0 (mm_Q below L s (mm_ov eo v) g') (F0 m 0 ls []) := by
  have hX0 := hX
  obtain ⟨hx, hb, hml, hown, hr, hlk, hex, hRf, hRl, hRc, hRs, hJ, hK, hst, h00⟩ := hX0
  unfold f_LA_requireCopy at h
  refine lv_iload_n hx hb d_LA_requireCopy_0 rfl (lv_at hl 0 rfl) ?_
  refine lv_if_lt (tgt := 9) hx hb d_LA_requireCopy_1 rfl (fun hc => ?_) (fun hc => ?_)
  · have h := mm_pos hc h
    exact w_LA_requireCopy_b9 hX h hP hF (lv_sub (l' := []) hl [] rfl)
  · have h := mm_neg hc h
    refine lv_iload_n hx hb d_LA_requireCopy_4 rfl (lv_at hl 0 rfl) ?_
    refine lv_iconst (v := 3) hx hb d_LA_requireCopy_5 (by decide) ?_
    refine lv_icmp_lt (tgt := 19) hx hb d_LA_requireCopy_6 rfl (fun hc => ?_) (fun hc => ?_)
    · have h := mm_pos hc h
      cases h
      exact mm_vret hx hb hr hlk hP hF d_LA_requireCopy_19
    · have h := mm_neg hc h
      exact w_LA_requireCopy_b9 hX h hP hF (lv_sub (l' := []) hl [] rfl)
set_option maxRecDepth 100000 in
set_option maxHeartbeats 4000000 in
theorem c_LA_requireCopy {l : Launch} {L : mm_L} {g g' : mm_M} {eo : Nat} {v : Int32} {r0 : Nat} {x1 : Int32} (hv_r0 : mm_lv L.1 0 r0) (h : f_LA_requireCopy L.1 g x1 = some (eo, v, g')) : mm_C l y_LA_requireCopy prog_1_method_26_code 2 none 6 82 L [.ref (L.2.1 0 r0), .int x1] g (mm_ov eo v) g' := by
  intro p e R s m below meth c hX hP
  refine mm_enter (Nat.le_of_ble_eq_true rfl) fun ls hl => ?_
  exact w_LA_requireCopy hX h hP (fun q hq => by cases hq) (lv_sub (l' := [(1, .int x1)]) hl [1] rfl)
def f_LA_requireLibrary_b12 (n : Nat) (g : mm_M)  : Option (Nat × Int32 × mm_M) :=
  some (1, 0, g)
set_option maxRecDepth 100000 in
set_option maxHeartbeats 4000000 in
theorem w_LA_requireLibrary_b12 {p : Program} {l : Launch} {e : Env} {R : Room} {s : State} {m : MethodId} {args : Array Value} {below : List Frame} {meth : Method} {c : Code} {L : mm_L} {eo : Nat} {v : Int32} {g' : mm_M} {g : mm_M} {H : Heap} {locs : List Loc} {ls : Array Slot} (hX : mm_X L prog_1_method_25_code 2 "LoanArrows" none 6 82 p l R s m meth c) (h : f_LA_requireLibrary_b12 L.1 g = some (eo, v, g')) (hP : mm_P L g H) (hF : ∀ q ∈ locs, mm_F L q.base) (hl : lv_has ls 2 []) : W p l e R s m args below meth c H locs 0 0 (mm_Q below L s (mm_ov eo v) g') (F0 m 12 ls []) := by
  have hX0 := hX
  obtain ⟨hx, hb, hml, hown, hr, hlk, hex, hRf, hRl, hRc, hRs, hJ, hK, hst, h00⟩ := hX0
  unfold f_LA_requireLibrary_b12 at h
  cases h
  exact mm_throw (x := 1) (names := mm_nm) hX hP hF wt_207 wt_208 wt_12 (show ("LoanArrows", 214, "no such library") ∈ mm_str by decide +kernel) at_LA_153 (by decide +kernel) mm_nm_fit hl.1 (by decide) (by decide) d_LA_requireLibrary_12 d_LA_requireLibrary_15 d_LA_requireLibrary_16 d_LA_requireLibrary_18 d_LA_requireLibrary_21
def f_LA_requireLibrary (n : Nat) (g : mm_M) (r0 : Nat) (x1 : Int32) : Option (Nat × Int32 × mm_M) :=
  (if x1 < 0 then f_LA_requireLibrary_b12 n g else (if x1 < (g 0 r0 0) then some (0, 0, g) else f_LA_requireLibrary_b12 n g))
set_option maxRecDepth 100000 in
set_option maxHeartbeats 4000000 in
theorem w_LA_requireLibrary {p : Program} {l : Launch} {e : Env} {R : Room} {s : State} {m : MethodId} {args : Array Value} {below : List Frame} {meth : Method} {c : Code} {L : mm_L} {eo : Nat} {v : Int32} {g' : mm_M} {g : mm_M} {r0 : Nat} {x1 : Int32} {H : Heap} {locs : List Loc} {ls : Array Slot} (hX : mm_X L prog_1_method_25_code 2 "LoanArrows" none 6 82 p l R s m meth c) (h : f_LA_requireLibrary L.1 g r0 x1 = some (eo, v, g')) (hP : mm_P L g H) (hF : ∀ q ∈ locs, mm_F L q.base) (hl : lv_has ls 2 [(0, .ref (L.2.1 0 r0)), (1, .int x1)]) (hv_r0 : mm_lv L.1 0 r0) : W p l e R s m args below meth c H locs 0 0 (mm_Q below L s (mm_ov eo v) g') (F0 m 0 ls []) := by
  have hX0 := hX
  obtain ⟨hx, hb, hml, hown, hr, hlk, hex, hRf, hRl, hRc, hRs, hJ, hK, hst, h00⟩ := hX0
  unfold f_LA_requireLibrary at h
  refine lv_iload_n hx hb d_LA_requireLibrary_0 rfl (lv_at hl 1 rfl) ?_
  refine lv_if_lt (tgt := 12) hx hb d_LA_requireLibrary_1 rfl (fun hc => ?_) (fun hc => ?_)
  · have h := mm_pos hc h
    exact w_LA_requireLibrary_b12 hX h hP hF (lv_sub (l' := []) hl [] rfl)
  · have h := mm_neg hc h
    refine lv_iload_n hx hb d_LA_requireLibrary_4 rfl (lv_at hl 1 rfl) ?_
    refine lv_aload_n hx hb d_LA_requireLibrary_5 rfl (lv_at hl 0 rfl) ?_
    refine mm_get (h := 0) (i := r0) 0 hX hP hv_r0 rfl rfl uin_0 (by decide) ⟨rfl, rfl, rfl⟩ wt_156 rfl d_LA_requireLibrary_6 ?_
    refine lv_icmp_lt (tgt := 22) hx hb d_LA_requireLibrary_9 rfl (fun hc => ?_) (fun hc => ?_)
    · have h := mm_pos hc h
      cases h
      exact mm_vret hx hb hr hlk hP hF d_LA_requireLibrary_22
    · have h := mm_neg hc h
      exact w_LA_requireLibrary_b12 hX h hP hF (lv_sub (l' := []) hl [] rfl)
set_option maxRecDepth 100000 in
set_option maxHeartbeats 4000000 in
theorem c_LA_requireLibrary {l : Launch} {L : mm_L} {g g' : mm_M} {eo : Nat} {v : Int32} {r0 : Nat} {x1 : Int32} (hv_r0 : mm_lv L.1 0 r0) (h : f_LA_requireLibrary L.1 g r0 x1 = some (eo, v, g')) : mm_C l y_LA_requireLibrary prog_1_method_25_code 2 none 6 82 L [.ref (L.2.1 0 r0), .int x1] g (mm_ov eo v) g' := by
  intro p e R s m below meth c hX hP
  refine mm_enter (Nat.le_of_ble_eq_true rfl) fun ls hl => ?_
  exact w_LA_requireLibrary hX h hP (fun q hq => by cases hq) (lv_sub (l' := [(0, .ref (L.2.1 0 r0)), (1, .int x1)]) hl [0, 1] rfl) hv_r0
def f_LA_copyAt (n : Nat) (g : mm_M) (r0 : Nat) (x1 : Int32) (x2 : Int32) : Option (Nat × Int32 × mm_M) :=
  mm_bd (f_LA_requireCopy n g x1) 0 (fun z1 g2 => mm_bd (f_LA_requireLibrary n g2 r0 x2) 0 (fun z4 g5 => mm_ix x1 3 (mm_bd (f_Co_isPlaced n g5 x1.toNatClampNeg) 0 (fun z8 g9 => (if z8 = 0 then mm_ix x1 3 (mm_bd (f_Co_settle n g9 x1.toNatClampNeg x2 0) 0 (fun z12 g13 => some (0, 0, g13))) else some (3, 0, g9))))))
set_option maxRecDepth 100000 in
set_option maxHeartbeats 4000000 in
theorem w_LA_copyAt {p : Program} {l : Launch} {e : Env} {R : Room} {s : State} {m : MethodId} {args : Array Value} {below : List Frame} {meth : Method} {c : Code} {L : mm_L} {eo : Nat} {v : Int32} {g' : mm_M} {g : mm_M} {r0 : Nat} {x1 : Int32} {x2 : Int32} {H : Heap} {locs : List Loc} {ls : Array Slot} (hX : mm_X L prog_1_method_2_code 3 "LoanArrows" none 7 103 p l R s m meth c) (h : f_LA_copyAt L.1 g r0 x1 x2 = some (eo, v, g')) (hP : mm_P L g H) (hF : ∀ q ∈ locs, mm_F L q.base) (hl : lv_has ls 3 [(0, .ref (L.2.1 0 r0)), (1, .int x1), (2, .int x2)]) (hv_r0 : mm_lv L.1 0 r0) : W p l e R s m args below meth c H locs 0 0 (mm_Q below L s (mm_ov eo v) g') (F0 m 0 ls []) := by
  have hX0 := hX
  obtain ⟨hx, hb, hml, hown, hr, hlk, hex, hRf, hRl, hRc, hRs, hJ, hK, hst, h00⟩ := hX0
  unfold f_LA_copyAt at h
  refine lv_aload_n hx hb d_LA_copyAt_0 rfl (lv_at hl 0 rfl) ?_
  refine lv_iload_n hx hb d_LA_copyAt_1 rfl (lv_at hl 1 rfl) ?_
  rcases mm_bd_some h with ⟨z1, g2, hf3, h⟩ | ⟨xe, z1, g2, hf3, h⟩
  · refine mm_goR (v := none) (mm_goV (As := [.int x1]) (rest := []) hX (c_LA_requireCopy hv_r0 hf3) yw_LA_requireCopy wt_203 wt_205 ws_0_0 hP hF (mm_recv (h := 0) (i := r0) hX hP hv_r0 rfl rfl) rfl hl.1 (Nat.le_of_ble_eq_true rfl) (by decide) (by decide) hRc hRs d_LA_copyAt_2) hF (fun H locs hP hF _ => ?_)
    refine lv_aload_n hx hb d_LA_copyAt_5 rfl (lv_at hl 0 rfl) ?_
    refine lv_iload_n hx hb d_LA_copyAt_6 rfl (lv_at hl 2 rfl) ?_
    rcases mm_bd_some h with ⟨z4, g5, hf6, h⟩ | ⟨xe, z4, g5, hf6, h⟩
    · refine mm_goR (v := none) (mm_goV (As := [.int x2]) (rest := []) hX (c_LA_requireLibrary hv_r0 hf6) yw_LA_requireLibrary wt_275 wt_277 ws_0_2 hP hF (mm_recv (h := 0) (i := r0) hX hP hv_r0 rfl rfl) rfl hl.1 (Nat.le_of_ble_eq_true rfl) (by decide) (by decide) hRc hRs d_LA_copyAt_7) hF (fun H locs hP hF _ => ?_)
      refine lv_aload_n hx hb d_LA_copyAt_10 rfl (lv_at hl 0 rfl) ?_
      refine mm_get (h := 0) (i := r0) 3 hX hP hv_r0 rfl rfl uin_0 (by decide) ⟨rfl, rfl, rfl⟩ wt_159 rfl d_LA_copyAt_11 ?_
      refine lv_iload_n hx hb d_LA_copyAt_14 rfl (lv_at hl 1 rfl) ?_
      obtain ⟨hin7, h⟩ := mm_ix_some h
      refine mm_aald (t := 2) (h := 4) (i := 0) hX hP mm_ls4 rfl rfl rfl hin7 d_LA_copyAt_15 ?_
      rcases mm_bd_some h with ⟨z8, g9, hf10, h⟩ | ⟨xe, z8, g9, hf10, h⟩
      · refine mm_goR (v := (some (.int z8))) (mm_goV (As := []) (rest := []) hX (c_Co_isPlaced (mm_l5 (n := L.1) hin7) hf10) yw_Co_isPlaced wt_280 wt_281 wt_282 hP hF (mm_recv (h := 5) (i := x1.toNatClampNeg) hX hP (mm_l5 (n := L.1) hin7) rfl rfl) rfl hl.1 (Nat.le_of_ble_eq_true rfl) (by decide) (by decide) hRc hRs d_LA_copyAt_16) hF (fun H locs hP hF _ => ?_)
        refine lv_if_eq (tgt := 32) hx hb d_LA_copyAt_19 rfl (fun hc => ?_) (fun hc => ?_)
        · have h := mm_pos hc h
          refine lv_aload_n hx hb d_LA_copyAt_32 rfl (lv_at hl 0 rfl) ?_
          refine mm_get (h := 0) (i := r0) 3 hX hP hv_r0 rfl rfl uin_0 (by decide) ⟨rfl, rfl, rfl⟩ wt_159 rfl d_LA_copyAt_33 ?_
          refine lv_iload_n hx hb d_LA_copyAt_36 rfl (lv_at hl 1 rfl) ?_
          obtain ⟨hin11, h⟩ := mm_ix_some h
          refine mm_aald (t := 2) (h := 4) (i := 0) hX hP mm_ls4 rfl rfl rfl hin11 d_LA_copyAt_37 ?_
          refine lv_iload_n hx hb d_LA_copyAt_38 rfl (lv_at hl 2 rfl) ?_
          refine lv_aload_n hx hb d_LA_copyAt_39 rfl (lv_at hl 0 rfl) ?_
          refine mm_get (h := 0) (i := r0) 2 hX hP hv_r0 rfl rfl uin_0 (by decide) ⟨rfl, rfl, rfl⟩ wt_158 rfl d_LA_copyAt_40 ?_
          rcases mm_bd_some h with ⟨z12, g13, hf14, h⟩ | ⟨xe, z12, g13, hf14, h⟩
          · refine mm_goR (v := none) (mm_goV (As := [.int x2, .ref (L.2.1 2 0)]) (rest := []) hX (c_Co_settle (mm_l5 (n := L.1) hin11) mm_ls2 hf14) yw_Co_settle wt_300 wt_301 wt_302 hP hF (mm_recv (h := 5) (i := x1.toNatClampNeg) hX hP (mm_l5 (n := L.1) hin11) rfl rfl) rfl hl.1 (Nat.le_of_ble_eq_true rfl) (by decide) (by decide) hRc hRs d_LA_copyAt_43) hF (fun H locs hP hF _ => ?_)
            cases h
            exact mm_vret hx hb hr hlk hP hF d_LA_copyAt_46
          · cases h
            exact mm_goT (x := xe + 1) (mm_goV (As := [.int x2, .ref (L.2.1 2 0)]) (rest := []) hX (c_Co_settle (mm_l5 (n := L.1) hin11) mm_ls2 hf14) yw_Co_settle wt_300 wt_301 wt_302 hP hF (mm_recv (h := 5) (i := x1.toNatClampNeg) hX hP (mm_l5 (n := L.1) hin11) rfl rfl) rfl hl.1 (Nat.le_of_ble_eq_true rfl) (by decide) (by decide) hRc hRs d_LA_copyAt_43) hF hex hlk
        · have h := mm_neg hc h
          cases h
          exact mm_throw (x := 3) (names := mm_nm) hX hP hF wt_284 wt_285 wt_13 (show ("LoanArrows", 63, "the copy is placed already") ∈ mm_str by decide +kernel) at_LA_65 (by decide +kernel) mm_nm_fit hl.1 (by decide) (by decide) d_LA_copyAt_22 d_LA_copyAt_25 d_LA_copyAt_26 d_LA_copyAt_28 d_LA_copyAt_31
      · cases h
        exact mm_goT (x := xe + 1) (mm_goV (As := []) (rest := []) hX (c_Co_isPlaced (mm_l5 (n := L.1) hin7) hf10) yw_Co_isPlaced wt_280 wt_281 wt_282 hP hF (mm_recv (h := 5) (i := x1.toNatClampNeg) hX hP (mm_l5 (n := L.1) hin7) rfl rfl) rfl hl.1 (Nat.le_of_ble_eq_true rfl) (by decide) (by decide) hRc hRs d_LA_copyAt_16) hF hex hlk
    · cases h
      exact mm_goT (x := xe + 1) (mm_goV (As := [.int x2]) (rest := []) hX (c_LA_requireLibrary hv_r0 hf6) yw_LA_requireLibrary wt_275 wt_277 ws_0_2 hP hF (mm_recv (h := 0) (i := r0) hX hP hv_r0 rfl rfl) rfl hl.1 (Nat.le_of_ble_eq_true rfl) (by decide) (by decide) hRc hRs d_LA_copyAt_7) hF hex hlk
  · cases h
    exact mm_goT (x := xe + 1) (mm_goV (As := [.int x1]) (rest := []) hX (c_LA_requireCopy hv_r0 hf3) yw_LA_requireCopy wt_203 wt_205 ws_0_0 hP hF (mm_recv (h := 0) (i := r0) hX hP hv_r0 rfl rfl) rfl hl.1 (Nat.le_of_ble_eq_true rfl) (by decide) (by decide) hRc hRs d_LA_copyAt_2) hF hex hlk
set_option maxRecDepth 100000 in
set_option maxHeartbeats 4000000 in
theorem c_LA_copyAt {l : Launch} {L : mm_L} {g g' : mm_M} {eo : Nat} {v : Int32} {r0 : Nat} {x1 : Int32} {x2 : Int32} (hv_r0 : mm_lv L.1 0 r0) (h : f_LA_copyAt L.1 g r0 x1 x2 = some (eo, v, g')) : mm_C l y_LA_copyAt prog_1_method_2_code 3 none 7 103 L [.ref (L.2.1 0 r0), .int x1, .int x2] g (mm_ov eo v) g' := by
  intro p e R s m below meth c hX hP
  refine mm_enter (Nat.le_of_ble_eq_true rfl) fun ls hl => ?_
  exact w_LA_copyAt hX h hP (fun q hq => by cases hq) (lv_sub (l' := [(0, .ref (L.2.1 0 r0)), (1, .int x1), (2, .int x2)]) hl [0, 1, 2] rfl) hv_r0
def f_LA_requirePlaced (n : Nat) (g : mm_M) (r0 : Nat) (x1 : Int32) : Option (Nat × Int32 × mm_M) :=
  mm_ix x1 3 (mm_bd (f_Co_isPlaced n g x1.toNatClampNeg) 0 (fun z2 g3 => (if z2 = 0 then some (3, 0, g3) else some (0, 0, g3))))
set_option maxRecDepth 100000 in
set_option maxHeartbeats 4000000 in
theorem w_LA_requirePlaced {p : Program} {l : Launch} {e : Env} {R : Room} {s : State} {m : MethodId} {args : Array Value} {below : List Frame} {meth : Method} {c : Code} {L : mm_L} {eo : Nat} {v : Int32} {g' : mm_M} {g : mm_M} {r0 : Nat} {x1 : Int32} {H : Heap} {locs : List Loc} {ls : Array Slot} (hX : mm_X L prog_1_method_28_code 2 "LoanArrows" none 6 82 p l R s m meth c) (h : f_LA_requirePlaced L.1 g r0 x1 = some (eo, v, g')) (hP : mm_P L g H) (hF : ∀ q ∈ locs, mm_F L q.base) (hl : lv_has ls 2 [(0, .ref (L.2.1 0 r0)), (1, .int x1)]) (hv_r0 : mm_lv L.1 0 r0) : W p l e R s m args below meth c H locs 0 0 (mm_Q below L s (mm_ov eo v) g') (F0 m 0 ls []) := by
  have hX0 := hX
  obtain ⟨hx, hb, hml, hown, hr, hlk, hex, hRf, hRl, hRc, hRs, hJ, hK, hst, h00⟩ := hX0
  unfold f_LA_requirePlaced at h
  refine lv_aload_n hx hb d_LA_requirePlaced_0 rfl (lv_at hl 0 rfl) ?_
  refine mm_get (h := 0) (i := r0) 3 hX hP hv_r0 rfl rfl uin_0 (by decide) ⟨rfl, rfl, rfl⟩ wt_159 rfl d_LA_requirePlaced_1 ?_
  refine lv_iload_n hx hb d_LA_requirePlaced_4 rfl (lv_at hl 1 rfl) ?_
  obtain ⟨hin1, h⟩ := mm_ix_some h
  refine mm_aald (t := 2) (h := 4) (i := 0) hX hP mm_ls4 rfl rfl rfl hin1 d_LA_requirePlaced_5 ?_
  rcases mm_bd_some h with ⟨z2, g3, hf4, h⟩ | ⟨xe, z2, g3, hf4, h⟩
  · refine mm_goR (v := (some (.int z2))) (mm_goV (As := []) (rest := []) hX (c_Co_isPlaced (mm_l5 (n := L.1) hin1) hf4) yw_Co_isPlaced wt_280 wt_281 wt_282 hP hF (mm_recv (h := 5) (i := x1.toNatClampNeg) hX hP (mm_l5 (n := L.1) hin1) rfl rfl) rfl hl.1 (Nat.le_of_ble_eq_true rfl) (by decide) (by decide) hRc hRs d_LA_requirePlaced_6) hF (fun H locs hP hF _ => ?_)
    refine lv_if_ne (tgt := 22) hx hb d_LA_requirePlaced_9 rfl (fun hc => ?_) (fun hc => ?_)
    · have h := mm_neg hc h
      cases h
      exact mm_vret hx hb hr hlk hP hF d_LA_requirePlaced_22
    · have h := mm_pos hc h
      cases h
      exact mm_throw (x := 3) (names := mm_nm) hX hP hF wt_284 wt_285 wt_13 (show ("LoanArrows", 220, "the copy is not placed") ∈ mm_str by decide +kernel) at_LA_65 (by decide +kernel) mm_nm_fit hl.1 (by decide) (by decide) d_LA_requirePlaced_12 d_LA_requirePlaced_15 d_LA_requirePlaced_16 d_LA_requirePlaced_18 d_LA_requirePlaced_21
  · cases h
    exact mm_goT (x := xe + 1) (mm_goV (As := []) (rest := []) hX (c_Co_isPlaced (mm_l5 (n := L.1) hin1) hf4) yw_Co_isPlaced wt_280 wt_281 wt_282 hP hF (mm_recv (h := 5) (i := x1.toNatClampNeg) hX hP (mm_l5 (n := L.1) hin1) rfl rfl) rfl hl.1 (Nat.le_of_ble_eq_true rfl) (by decide) (by decide) hRc hRs d_LA_requirePlaced_6) hF hex hlk
set_option maxRecDepth 100000 in
set_option maxHeartbeats 4000000 in
theorem c_LA_requirePlaced {l : Launch} {L : mm_L} {g g' : mm_M} {eo : Nat} {v : Int32} {r0 : Nat} {x1 : Int32} (hv_r0 : mm_lv L.1 0 r0) (h : f_LA_requirePlaced L.1 g r0 x1 = some (eo, v, g')) : mm_C l y_LA_requirePlaced prog_1_method_28_code 2 none 6 82 L [.ref (L.2.1 0 r0), .int x1] g (mm_ov eo v) g' := by
  intro p e R s m below meth c hX hP
  refine mm_enter (Nat.le_of_ble_eq_true rfl) fun ls hl => ?_
  exact w_LA_requirePlaced hX h hP (fun q hq => by cases hq) (lv_sub (l' := [(0, .ref (L.2.1 0 r0)), (1, .int x1)]) hl [0, 1] rfl) hv_r0
def f_LA_requireUp (n : Nat) (g : mm_M) (r0 : Nat) (x1 : Int32) : Option (Nat × Int32 × mm_M) :=
  mm_ix x1 n ((if (g 1 0 x1.toNatClampNeg) = 0 then some (0, 0, g) else some (3, 0, g)))
set_option maxRecDepth 100000 in
set_option maxHeartbeats 4000000 in
theorem w_LA_requireUp {p : Program} {l : Launch} {e : Env} {R : Room} {s : State} {m : MethodId} {args : Array Value} {below : List Frame} {meth : Method} {c : Code} {L : mm_L} {eo : Nat} {v : Int32} {g' : mm_M} {g : mm_M} {r0 : Nat} {x1 : Int32} {H : Heap} {locs : List Loc} {ls : Array Slot} (hX : mm_X L prog_1_method_29_code 2 "LoanArrows" none 6 82 p l R s m meth c) (h : f_LA_requireUp L.1 g r0 x1 = some (eo, v, g')) (hP : mm_P L g H) (hF : ∀ q ∈ locs, mm_F L q.base) (hl : lv_has ls 2 [(0, .ref (L.2.1 0 r0)), (1, .int x1)]) (hv_r0 : mm_lv L.1 0 r0) : W p l e R s m args below meth c H locs 0 0 (mm_Q below L s (mm_ov eo v) g') (F0 m 0 ls []) := by
  have hX0 := hX
  obtain ⟨hx, hb, hml, hown, hr, hlk, hex, hRf, hRl, hRc, hRs, hJ, hK, hst, h00⟩ := hX0
  unfold f_LA_requireUp at h
  refine lv_aload_n hx hb d_LA_requireUp_0 rfl (lv_at hl 0 rfl) ?_
  refine mm_get (h := 0) (i := r0) 1 hX hP hv_r0 rfl rfl uin_0 (by decide) ⟨rfl, rfl, rfl⟩ wt_157 rfl d_LA_requireUp_1 ?_
  refine lv_iload_n hx hb d_LA_requireUp_4 rfl (lv_at hl 1 rfl) ?_
  obtain ⟨hin, h⟩ := mm_ix_some h
  refine mm_zald (h := 1) (i := 0) hX hP mm_ls1 (fun _ => rfl) rfl hin d_LA_requireUp_5 ?_
  refine lv_if_eq (tgt := 19) hx hb d_LA_requireUp_6 rfl (fun hc => ?_) (fun hc => ?_)
  · have h := mm_pos hc h
    cases h
    exact mm_vret hx hb hr hlk hP hF d_LA_requireUp_19
  · have h := mm_neg hc h
    cases h
    exact mm_throw (x := 3) (names := mm_nm) hX hP hF wt_284 wt_285 wt_13 (show ("LoanArrows", 222, "the library is down") ∈ mm_str by decide +kernel) at_LA_65 (by decide +kernel) mm_nm_fit hl.1 (by decide) (by decide) d_LA_requireUp_9 d_LA_requireUp_12 d_LA_requireUp_13 d_LA_requireUp_15 d_LA_requireUp_18
set_option maxRecDepth 100000 in
set_option maxHeartbeats 4000000 in
theorem c_LA_requireUp {l : Launch} {L : mm_L} {g g' : mm_M} {eo : Nat} {v : Int32} {r0 : Nat} {x1 : Int32} (hv_r0 : mm_lv L.1 0 r0) (h : f_LA_requireUp L.1 g r0 x1 = some (eo, v, g')) : mm_C l y_LA_requireUp prog_1_method_29_code 2 none 6 82 L [.ref (L.2.1 0 r0), .int x1] g (mm_ov eo v) g' := by
  intro p e R s m below meth c hX hP
  refine mm_enter (Nat.le_of_ble_eq_true rfl) fun ls hl => ?_
  exact w_LA_requireUp hX h hP (fun q hq => by cases hq) (lv_sub (l' := [(0, .ref (L.2.1 0 r0)), (1, .int x1)]) hl [0, 1] rfl) hv_r0
def f_LA_openRequest (n : Nat) (g : mm_M) (r0 : Nat) (x1 : Int32) (x2 : Int32) : Option (Nat × Int32 × mm_M) :=
  mm_ix x2 3 (mm_ix x1 n ((if (g 8 (12 * x2.toNatClampNeg + x1.toNatClampNeg) 4) = 4 then mm_let (mm_st g 8 (12 * x2.toNatClampNeg + x1.toNatClampNeg) 4 2) (fun g10 => some (0, 0, g10)) else mm_let (mm_st g 8 (12 * x2.toNatClampNeg + x1.toNatClampNeg) 4 1) (fun g3 => mm_let (mm_st g3 8 (12 * x2.toNatClampNeg + x1.toNatClampNeg) 2 x1) (fun g5 => mm_bd (f_Ma_sendLetter n g5 0 x1 (g 8 (12 * x2.toNatClampNeg + x1.toNatClampNeg) 2) x2 x1) 0 (fun z7 g8 => some (0, 0, g8)))))))
set_option maxRecDepth 100000 in
set_option maxHeartbeats 4000000 in
theorem w_LA_openRequest {p : Program} {l : Launch} {e : Env} {R : Room} {s : State} {m : MethodId} {args : Array Value} {below : List Frame} {meth : Method} {c : Code} {L : mm_L} {eo : Nat} {v : Int32} {g' : mm_M} {g : mm_M} {r0 : Nat} {x1 : Int32} {x2 : Int32} {H : Heap} {locs : List Loc} {ls : Array Slot} (hX : mm_X L prog_1_method_22_code 5 "LoanArrows" none 3 76 p l R s m meth c) (h : f_LA_openRequest L.1 g r0 x1 x2 = some (eo, v, g')) (hP : mm_P L g H) (hF : ∀ q ∈ locs, mm_F L q.base) (hl : lv_has ls 5 [(0, .ref (L.2.1 0 r0)), (1, .int x1), (2, .int x2)]) (hv_r0 : mm_lv L.1 0 r0) : W p l e R s m args below meth c H locs 0 0 (mm_Q below L s (mm_ov eo v) g') (F0 m 0 ls []) := by
  have hX0 := hX
  obtain ⟨hx, hb, hml, hown, hr, hlk, hex, hRf, hRl, hRc, hRs, hJ, hK, hst, h00⟩ := hX0
  unfold f_LA_openRequest at h
  refine lv_aload_n hx hb d_LA_openRequest_0 rfl (lv_at hl 0 rfl) ?_
  refine mm_get (h := 0) (i := r0) 3 hX hP hv_r0 rfl rfl uin_0 (by decide) ⟨rfl, rfl, rfl⟩ wt_159 rfl d_LA_openRequest_1 ?_
  refine lv_iload_n hx hb d_LA_openRequest_4 rfl (lv_at hl 2 rfl) ?_
  obtain ⟨hin1, h⟩ := mm_ix_some h
  refine mm_aald (t := 2) (h := 4) (i := 0) hX hP mm_ls4 rfl rfl rfl hin1 d_LA_openRequest_5 ?_
  refine mm_getN (h := 5) (i := x2.toNatClampNeg) 0 hX hP (mm_l5 (n := L.1) hin1) rfl rfl uin_5 (by decide) ⟨rfl, rfl, rfl⟩ wn_81 rfl d_LA_openRequest_6 ?_
  refine lv_iload_n hx hb d_LA_openRequest_9 rfl (lv_at hl 1 rfl) ?_
  obtain ⟨hin2, h⟩ := mm_ix_some h
  refine mm_aald (t := 3) (h := 6) (i := x2.toNatClampNeg) hX hP (mm_l5 (n := L.1) hin1) rfl rfl rfl hin2 d_LA_openRequest_10 ?_
  refine lv_astore_n hx hb d_LA_openRequest_11 rfl hl (Nat.lt_of_lt_of_le (Nat.lt_succ_self _) (Nat.le_of_ble_eq_true rfl)) rfl (fun ls hl => ?_)
  have hl : lv_has ls 5 [(3, .ref (L.2.1 8 (12 * x2.toNatClampNeg + x1.toNatClampNeg))), (0, .ref (L.2.1 0 r0)), (1, .int x1), (2, .int x2)] := hl
  refine lv_aload_n hx hb d_LA_openRequest_12 rfl (lv_at hl 0 rfl) ?_
  refine mm_getN (h := 8) (i := (12 * x2.toNatClampNeg + x1.toNatClampNeg)) 4 hX hP (mm_l8 (n := L.1) (mm_l5 (n := L.1) hin1) hin2) rfl rfl uin_8 (by decide) ⟨rfl, rfl, rfl⟩ wn_65 rfl d_LA_openRequest_13 ?_
  refine lv_iconst (v := 4) hx hb d_LA_openRequest_16 (by decide) ?_
  refine lv_icmp_ne (tgt := 26) hx hb d_LA_openRequest_17 rfl (fun hc => ?_) (fun hc => ?_)
  · have h := mm_neg hc h
    refine lv_aload_n hx hb d_LA_openRequest_26 rfl (lv_at hl 0 rfl) ?_
    refine mm_getN (h := 8) (i := (12 * x2.toNatClampNeg + x1.toNatClampNeg)) 2 hX hP (mm_l8 (n := L.1) (mm_l5 (n := L.1) hin1) hin2) rfl rfl uin_8 (by decide) ⟨rfl, rfl, rfl⟩ wn_59 rfl d_LA_openRequest_27 ?_
    refine lv_istore hx hb d_LA_openRequest_30 hl (Nat.lt_of_lt_of_le (Nat.lt_succ_self _) (Nat.le_of_ble_eq_true rfl)) rfl (fun ls hl => ?_)
    have hl : lv_has ls 5 [(4, .int (g 8 (12 * x2.toNatClampNeg + x1.toNatClampNeg) 2)), (3, .ref (L.2.1 8 (12 * x2.toNatClampNeg + x1.toNatClampNeg))), (0, .ref (L.2.1 0 r0)), (1, .int x1), (2, .int x2)] := hl
    refine lv_aload_n hx hb d_LA_openRequest_32 rfl (lv_at hl 1 rfl) ?_
    refine lv_iconst (v := 1) hx hb d_LA_openRequest_33 (by decide) ?_
    refine mm_putN (h := 8) (i := (12 * x2.toNatClampNeg + x1.toNatClampNeg)) 4 hX hP hF (mm_l8 (n := L.1) (mm_l5 (n := L.1) hin1) hin2) rfl rfl rfl uin_8 ty_8 tyok_8 nmok_8 (by decide) ⟨rfl, rfl, rfl⟩ rfl wn_65 rfl rfl rfl (Nat.le_of_ble_eq_true rfl) d_LA_openRequest_34 (fun H locs hP hF => ?_)
    obtain ⟨g3, e4, h⟩ := mm_let_ex h
    have hP : mm_P L g3 H := by rw [e4]; exact hP
    refine lv_aload_n hx hb d_LA_openRequest_37 rfl (lv_at hl 1 rfl) ?_
    refine lv_iload_n hx hb d_LA_openRequest_38 rfl (lv_at hl 3 rfl) ?_
    refine mm_putN (h := 8) (i := (12 * x2.toNatClampNeg + x1.toNatClampNeg)) 2 hX hP hF (mm_l8 (n := L.1) (mm_l5 (n := L.1) hin1) hin2) rfl rfl rfl uin_8 ty_8 tyok_8 nmok_8 (by decide) ⟨rfl, rfl, rfl⟩ rfl wn_59 rfl rfl rfl (Nat.le_of_ble_eq_true rfl) d_LA_openRequest_39 (fun H locs hP hF => ?_)
    obtain ⟨g5, e6, h⟩ := mm_let_ex h
    have hP : mm_P L g5 H := by rw [e6]; exact hP
    refine lv_aload_n hx hb d_LA_openRequest_42 rfl (lv_at hl 2 rfl) ?_
    refine mm_get (h := 0) (i := r0) 5 hX hP hv_r0 rfl rfl uin_0 (by decide) ⟨rfl, rfl, rfl⟩ wt_161 rfl d_LA_openRequest_43 ?_
    refine lv_iload_n hx hb d_LA_openRequest_46 rfl (lv_at hl 3 rfl) ?_
    refine lv_iload hx hb d_LA_openRequest_47 (lv_at hl 0 rfl) ?_
    refine lv_iload_n hx hb d_LA_openRequest_49 rfl (lv_at hl 4 rfl) ?_
    refine lv_iload_n hx hb d_LA_openRequest_50 rfl (lv_at hl 3 rfl) ?_
    rcases mm_bd_some h with ⟨z7, g8, hf9, h⟩ | ⟨xe, z7, g8, hf9, h⟩
    · refine mm_goR (v := none) (mm_goV (As := [.int x1, .int (g 8 (12 * x2.toNatClampNeg + x1.toNatClampNeg) 2), .int x2, .int x1]) (rest := []) hX (c_Ma_sendLetter mm_ls12 hf9) yw_Ma_sendLetter wt_359 wt_360 wt_361 hP hF (mm_recv (h := 12) (i := 0) hX hP mm_ls12 rfl rfl) rfl hl.1 (Nat.le_of_ble_eq_true rfl) (by decide) (by decide) hRc hRs d_LA_openRequest_51) hF (fun H locs hP hF _ => ?_)
      cases h
      exact mm_vret hx hb hr hlk hP hF d_LA_openRequest_54
    · cases h
      exact mm_goT (x := xe + 1) (mm_goV (As := [.int x1, .int (g 8 (12 * x2.toNatClampNeg + x1.toNatClampNeg) 2), .int x2, .int x1]) (rest := []) hX (c_Ma_sendLetter mm_ls12 hf9) yw_Ma_sendLetter wt_359 wt_360 wt_361 hP hF (mm_recv (h := 12) (i := 0) hX hP mm_ls12 rfl rfl) rfl hl.1 (Nat.le_of_ble_eq_true rfl) (by decide) (by decide) hRc hRs d_LA_openRequest_51) hF hex hlk
  · have h := mm_pos hc h
    refine lv_aload_n hx hb d_LA_openRequest_20 rfl (lv_at hl 0 rfl) ?_
    refine lv_iconst (v := 2) hx hb d_LA_openRequest_21 (by decide) ?_
    refine mm_putN (h := 8) (i := (12 * x2.toNatClampNeg + x1.toNatClampNeg)) 4 hX hP hF (mm_l8 (n := L.1) (mm_l5 (n := L.1) hin1) hin2) rfl rfl rfl uin_8 ty_8 tyok_8 nmok_8 (by decide) ⟨rfl, rfl, rfl⟩ rfl wn_65 rfl rfl rfl (Nat.le_of_ble_eq_true rfl) d_LA_openRequest_22 (fun H locs hP hF => ?_)
    obtain ⟨g10, e11, h⟩ := mm_let_ex h
    have hP : mm_P L g10 H := by rw [e11]; exact hP
    cases h
    exact mm_vret hx hb hr hlk hP hF d_LA_openRequest_25
set_option maxRecDepth 100000 in
set_option maxHeartbeats 4000000 in
theorem c_LA_openRequest {l : Launch} {L : mm_L} {g g' : mm_M} {eo : Nat} {v : Int32} {r0 : Nat} {x1 : Int32} {x2 : Int32} (hv_r0 : mm_lv L.1 0 r0) (h : f_LA_openRequest L.1 g r0 x1 x2 = some (eo, v, g')) : mm_C l y_LA_openRequest prog_1_method_22_code 5 none 3 76 L [.ref (L.2.1 0 r0), .int x1, .int x2] g (mm_ov eo v) g' := by
  intro p e R s m below meth c hX hP
  refine mm_enter (Nat.le_of_ble_eq_true rfl) fun ls hl => ?_
  exact w_LA_openRequest hX h hP (fun q hq => by cases hq) (lv_sub (l' := [(0, .ref (L.2.1 0 r0)), (1, .int x1), (2, .int x2)]) hl [0, 1, 2] rfl) hv_r0
def f_LA_want_b22 (n : Nat) (g : mm_M)  : Option (Nat × Int32 × mm_M) :=
  some (2, 0, g)
set_option maxRecDepth 100000 in
set_option maxHeartbeats 4000000 in
theorem w_LA_want_b22 {p : Program} {l : Launch} {e : Env} {R : Room} {s : State} {m : MethodId} {args : Array Value} {below : List Frame} {meth : Method} {c : Code} {L : mm_L} {eo : Nat} {v : Int32} {g' : mm_M} {g : mm_M} {H : Heap} {locs : List Loc} {ls : Array Slot} (hX : mm_X L prog_1_method_3_code 5 "LoanArrows" (some .int) 7 103 p l R s m meth c) (h : f_LA_want_b22 L.1 g = some (eo, v, g')) (hP : mm_P L g H) (hF : ∀ q ∈ locs, mm_F L q.base) (hl : lv_has ls 5 []) : W p l e R s m args below meth c H locs 0 0 (mm_Q below L s (mm_oi eo v) g') (F0 m 22 ls []) := by
  have hX0 := hX
  obtain ⟨hx, hb, hml, hown, hr, hlk, hex, hRf, hRl, hRc, hRs, hJ, hK, hst, h00⟩ := hX0
  unfold f_LA_want_b22 at h
  cases h
  exact mm_throw (x := 2) (names := mm_nm) hX hP hF wt_316 wt_317 wt_14 (show ("LoanArrows", 74, "no such reader") ∈ mm_str by decide +kernel) at_LA_76 (by decide +kernel) mm_nm_fit hl.1 (by decide) (by decide) d_LA_want_22 d_LA_want_25 d_LA_want_26 d_LA_want_28 d_LA_want_31
def f_LA_want_b72 (n : Nat) (g : mm_M)  : Option (Nat × Int32 × mm_M) :=
  some (3, 0, g)
set_option maxRecDepth 100000 in
set_option maxHeartbeats 4000000 in
theorem w_LA_want_b72 {p : Program} {l : Launch} {e : Env} {R : Room} {s : State} {m : MethodId} {args : Array Value} {below : List Frame} {meth : Method} {c : Code} {L : mm_L} {eo : Nat} {v : Int32} {g' : mm_M} {g : mm_M} {H : Heap} {locs : List Loc} {ls : Array Slot} (hX : mm_X L prog_1_method_3_code 5 "LoanArrows" (some .int) 7 103 p l R s m meth c) (h : f_LA_want_b72 L.1 g = some (eo, v, g')) (hP : mm_P L g H) (hF : ∀ q ∈ locs, mm_F L q.base) (hl : lv_has ls 5 []) : W p l e R s m args below meth c H locs 0 0 (mm_Q below L s (mm_oi eo v) g') (F0 m 72 ls []) := by
  have hX0 := hX
  obtain ⟨hx, hb, hml, hown, hr, hlk, hex, hRf, hRl, hRc, hRs, hJ, hK, hst, h00⟩ := hX0
  unfold f_LA_want_b72 at h
  cases h
  exact mm_throw (x := 3) (names := mm_nm) hX hP hF wt_284 wt_285 wt_13 (show ("LoanArrows", 96, "the queue is full or has the reader") ∈ mm_str by decide +kernel) at_LA_65 (by decide +kernel) mm_nm_fit hl.1 (by decide) (by decide) d_LA_want_72 d_LA_want_75 d_LA_want_76 d_LA_want_78 d_LA_want_81
def f_LA_want_b111 (n : Nat) (g : mm_M) (r4 : Nat) : Option (Nat × Int32 × mm_M) :=
  some (0, (g 8 r4 4), g)
set_option maxRecDepth 100000 in
set_option maxHeartbeats 4000000 in
theorem w_LA_want_b111 {p : Program} {l : Launch} {e : Env} {R : Room} {s : State} {m : MethodId} {args : Array Value} {below : List Frame} {meth : Method} {c : Code} {L : mm_L} {eo : Nat} {v : Int32} {g' : mm_M} {g : mm_M} {r4 : Nat} {H : Heap} {locs : List Loc} {ls : Array Slot} (hX : mm_X L prog_1_method_3_code 5 "LoanArrows" (some .int) 7 103 p l R s m meth c) (h : f_LA_want_b111 L.1 g r4 = some (eo, v, g')) (hP : mm_P L g H) (hF : ∀ q ∈ locs, mm_F L q.base) (hl : lv_has ls 5 [(4, .ref (L.2.1 8 r4))]) (hv_r4 : mm_lv L.1 8 r4) : W p l e R s m args below meth c H locs 0 0 (mm_Q below L s (mm_oi eo v) g') (F0 m 111 ls []) := by
  have hX0 := hX
  obtain ⟨hx, hb, hml, hown, hr, hlk, hex, hRf, hRl, hRc, hRs, hJ, hK, hst, h00⟩ := hX0
  unfold f_LA_want_b111 at h
  refine lv_aload hx hb d_LA_want_111 (lv_at hl 0 rfl) ?_
  refine mm_getN (h := 8) (i := r4) 4 hX hP hv_r4 rfl rfl uin_8 (by decide) ⟨rfl, rfl, rfl⟩ wn_65 rfl d_LA_want_113 ?_
  cases h
  exact mm_iret hx hb hr hlk hP hF d_LA_want_116
def f_LA_want_b105 (n : Nat) (g : mm_M) (r0 : Nat) (x1 : Int32) (x2 : Int32) (r4 : Nat) : Option (Nat × Int32 × mm_M) :=
  mm_bd (f_LA_openRequest n g r0 x1 x2) 0 (fun z1 g2 => f_LA_want_b111 n g2 r4)
set_option maxRecDepth 100000 in
set_option maxHeartbeats 4000000 in
theorem w_LA_want_b105 {p : Program} {l : Launch} {e : Env} {R : Room} {s : State} {m : MethodId} {args : Array Value} {below : List Frame} {meth : Method} {c : Code} {L : mm_L} {eo : Nat} {v : Int32} {g' : mm_M} {g : mm_M} {r0 : Nat} {x1 : Int32} {x2 : Int32} {r4 : Nat} {H : Heap} {locs : List Loc} {ls : Array Slot} (hX : mm_X L prog_1_method_3_code 5 "LoanArrows" (some .int) 7 103 p l R s m meth c) (h : f_LA_want_b105 L.1 g r0 x1 x2 r4 = some (eo, v, g')) (hP : mm_P L g H) (hF : ∀ q ∈ locs, mm_F L q.base) (hl : lv_has ls 5 [(0, .ref (L.2.1 0 r0)), (1, .int x1), (2, .int x2), (4, .ref (L.2.1 8 r4))]) (hv_r0 : mm_lv L.1 0 r0) (hv_r4 : mm_lv L.1 8 r4) : W p l e R s m args below meth c H locs 0 0 (mm_Q below L s (mm_oi eo v) g') (F0 m 105 ls []) := by
  have hX0 := hX
  obtain ⟨hx, hb, hml, hown, hr, hlk, hex, hRf, hRl, hRc, hRs, hJ, hK, hst, h00⟩ := hX0
  unfold f_LA_want_b105 at h
  refine lv_aload_n hx hb d_LA_want_105 rfl (lv_at hl 0 rfl) ?_
  refine lv_iload_n hx hb d_LA_want_106 rfl (lv_at hl 1 rfl) ?_
  refine lv_iload_n hx hb d_LA_want_107 rfl (lv_at hl 2 rfl) ?_
  rcases mm_bd_some h with ⟨z1, g2, hf3, h⟩ | ⟨xe, z1, g2, hf3, h⟩
  · refine mm_goR (v := none) (mm_goV (As := [.int x1, .int x2]) (rest := []) hX (c_LA_openRequest hv_r0 hf3) yw_LA_openRequest wt_355 wt_357 ws_0_5 hP hF (mm_recv (h := 0) (i := r0) hX hP hv_r0 rfl rfl) rfl hl.1 (Nat.le_of_ble_eq_true rfl) (by decide) (by decide) hRc hRs d_LA_want_108) hF (fun H locs hP hF _ => ?_)
    exact w_LA_want_b111 hX h hP hF (lv_sub (l' := [(4, .ref (L.2.1 8 r4))]) hl [3] rfl) hv_r4
  · cases h
    exact mm_goT (x := xe + 1) (mm_goV (As := [.int x1, .int x2]) (rest := []) hX (c_LA_openRequest hv_r0 hf3) yw_LA_openRequest wt_355 wt_357 ws_0_5 hP hF (mm_recv (h := 0) (i := r0) hX hP hv_r0 rfl rfl) rfl hl.1 (Nat.le_of_ble_eq_true rfl) (by decide) (by decide) hRc hRs d_LA_want_108) hF hex hlk
def f_LA_want (n : Nat) (g : mm_M) (r0 : Nat) (x1 : Int32) (x2 : Int32) (x3 : Int32) : Option (Nat × Int32 × mm_M) :=
  mm_bd (f_LA_requireLibrary n g r0 x1) 0 (fun z1 g2 => mm_bd (f_LA_requireCopy n g2 x2) 0 (fun z4 g5 => (if x3 < 1 then f_LA_want_b22 n g5 else (if x3 ≤ 1000 then mm_bd (f_LA_requirePlaced n g5 r0 x2) 0 (fun z7 g8 => mm_bd (f_LA_requireUp n g8 r0 x1) 0 (fun z10 g11 => mm_ix x2 3 (mm_ix x1 n (mm_bd (f_De_isFull n g11 (12 * x2.toNatClampNeg + x1.toNatClampNeg)) 0 (fun z15 g16 => (if z15 = 0 then mm_bd (f_De_hasInQueue n g16 (12 * x2.toNatClampNeg + x1.toNatClampNeg) x3) 0 (fun z18 g19 => (if z18 = 0 then mm_bd (f_De_enqueue n g19 (12 * x2.toNatClampNeg + x1.toNatClampNeg) x3) 0 (fun z21 g22 => (if (g22 8 (12 * x2.toNatClampNeg + x1.toNatClampNeg) 4) = 0 then f_LA_want_b105 n g22 r0 x1 x2 (12 * x2.toNatClampNeg + x1.toNatClampNeg) else (if (g22 8 (12 * x2.toNatClampNeg + x1.toNatClampNeg) 4) = 4 then f_LA_want_b105 n g22 r0 x1 x2 (12 * x2.toNatClampNeg + x1.toNatClampNeg) else f_LA_want_b111 n g22 (12 * x2.toNatClampNeg + x1.toNatClampNeg)))) else f_LA_want_b72 n g19)) else f_LA_want_b72 n g16)))))) else f_LA_want_b22 n g5))))
set_option maxRecDepth 100000 in
set_option maxHeartbeats 4000000 in
theorem w_LA_want {p : Program} {l : Launch} {e : Env} {R : Room} {s : State} {m : MethodId} {args : Array Value} {below : List Frame} {meth : Method} {c : Code} {L : mm_L} {eo : Nat} {v : Int32} {g' : mm_M} {g : mm_M} {r0 : Nat} {x1 : Int32} {x2 : Int32} {x3 : Int32} {H : Heap} {locs : List Loc} {ls : Array Slot} (hX : mm_X L prog_1_method_3_code 5 "LoanArrows" (some .int) 7 103 p l R s m meth c) (h : f_LA_want L.1 g r0 x1 x2 x3 = some (eo, v, g')) (hP : mm_P L g H) (hF : ∀ q ∈ locs, mm_F L q.base) (hl : lv_has ls 5 [(0, .ref (L.2.1 0 r0)), (1, .int x1), (2, .int x2), (3, .int x3)]) (hv_r0 : mm_lv L.1 0 r0) : W p l e R s m args below meth c H locs 0 0 (mm_Q below L s (mm_oi eo v) g') (F0 m 0 ls []) := by
  have hX0 := hX
  obtain ⟨hx, hb, hml, hown, hr, hlk, hex, hRf, hRl, hRc, hRs, hJ, hK, hst, h00⟩ := hX0
  unfold f_LA_want at h
  refine lv_aload_n hx hb d_LA_want_0 rfl (lv_at hl 0 rfl) ?_
  refine lv_iload_n hx hb d_LA_want_1 rfl (lv_at hl 1 rfl) ?_
  rcases mm_bd_some h with ⟨z1, g2, hf3, h⟩ | ⟨xe, z1, g2, hf3, h⟩
  · refine mm_goR (v := none) (mm_goV (As := [.int x1]) (rest := []) hX (c_LA_requireLibrary hv_r0 hf3) yw_LA_requireLibrary wt_275 wt_277 ws_0_2 hP hF (mm_recv (h := 0) (i := r0) hX hP hv_r0 rfl rfl) rfl hl.1 (Nat.le_of_ble_eq_true rfl) (by decide) (by decide) hRc hRs d_LA_want_2) hF (fun H locs hP hF _ => ?_)
    refine lv_aload_n hx hb d_LA_want_5 rfl (lv_at hl 0 rfl) ?_
    refine lv_iload_n hx hb d_LA_want_6 rfl (lv_at hl 2 rfl) ?_
    rcases mm_bd_some h with ⟨z4, g5, hf6, h⟩ | ⟨xe, z4, g5, hf6, h⟩
    · refine mm_goR (v := none) (mm_goV (As := [.int x2]) (rest := []) hX (c_LA_requireCopy hv_r0 hf6) yw_LA_requireCopy wt_203 wt_205 ws_0_0 hP hF (mm_recv (h := 0) (i := r0) hX hP hv_r0 rfl rfl) rfl hl.1 (Nat.le_of_ble_eq_true rfl) (by decide) (by decide) hRc hRs d_LA_want_7) hF (fun H locs hP hF _ => ?_)
      refine lv_iload_n hx hb d_LA_want_10 rfl (lv_at hl 3 rfl) ?_
      refine lv_iconst (v := 1) hx hb d_LA_want_11 (by decide) ?_
      refine lv_icmp_lt (tgt := 22) hx hb d_LA_want_12 rfl (fun hc => ?_) (fun hc => ?_)
      · have h := mm_pos hc h
        exact w_LA_want_b22 hX h hP hF (lv_sub (l' := []) hl [] rfl)
      · have h := mm_neg hc h
        refine lv_iload_n hx hb d_LA_want_15 rfl (lv_at hl 3 rfl) ?_
        refine lv_sipush (v := 1000) hx hb d_LA_want_16 (by decide) ?_
        refine lv_icmp_le (tgt := 32) hx hb d_LA_want_19 rfl (fun hc => ?_) (fun hc => ?_)
        · have h := mm_pos hc h
          refine lv_aload_n hx hb d_LA_want_32 rfl (lv_at hl 0 rfl) ?_
          refine lv_iload_n hx hb d_LA_want_33 rfl (lv_at hl 2 rfl) ?_
          rcases mm_bd_some h with ⟨z7, g8, hf9, h⟩ | ⟨xe, z7, g8, hf9, h⟩
          · refine mm_goR (v := none) (mm_goV (As := [.int x2]) (rest := []) hX (c_LA_requirePlaced hv_r0 hf9) yw_LA_requirePlaced wt_332 wt_334 ws_0_3 hP hF (mm_recv (h := 0) (i := r0) hX hP hv_r0 rfl rfl) rfl hl.1 (Nat.le_of_ble_eq_true rfl) (by decide) (by decide) hRc hRs d_LA_want_34) hF (fun H locs hP hF _ => ?_)
            refine lv_aload_n hx hb d_LA_want_37 rfl (lv_at hl 0 rfl) ?_
            refine lv_iload_n hx hb d_LA_want_38 rfl (lv_at hl 1 rfl) ?_
            rcases mm_bd_some h with ⟨z10, g11, hf12, h⟩ | ⟨xe, z10, g11, hf12, h⟩
            · refine mm_goR (v := none) (mm_goV (As := [.int x1]) (rest := []) hX (c_LA_requireUp hv_r0 hf12) yw_LA_requireUp wt_337 wt_339 ws_0_4 hP hF (mm_recv (h := 0) (i := r0) hX hP hv_r0 rfl rfl) rfl hl.1 (Nat.le_of_ble_eq_true rfl) (by decide) (by decide) hRc hRs d_LA_want_39) hF (fun H locs hP hF _ => ?_)
              refine lv_aload_n hx hb d_LA_want_42 rfl (lv_at hl 0 rfl) ?_
              refine mm_get (h := 0) (i := r0) 3 hX hP hv_r0 rfl rfl uin_0 (by decide) ⟨rfl, rfl, rfl⟩ wt_159 rfl d_LA_want_43 ?_
              refine lv_iload_n hx hb d_LA_want_46 rfl (lv_at hl 2 rfl) ?_
              obtain ⟨hin13, h⟩ := mm_ix_some h
              refine mm_aald (t := 2) (h := 4) (i := 0) hX hP mm_ls4 rfl rfl rfl hin13 d_LA_want_47 ?_
              refine mm_getN (h := 5) (i := x2.toNatClampNeg) 0 hX hP (mm_l5 (n := L.1) hin13) rfl rfl uin_5 (by decide) ⟨rfl, rfl, rfl⟩ wn_81 rfl d_LA_want_48 ?_
              refine lv_iload_n hx hb d_LA_want_51 rfl (lv_at hl 1 rfl) ?_
              obtain ⟨hin14, h⟩ := mm_ix_some h
              refine mm_aald (t := 3) (h := 6) (i := x2.toNatClampNeg) hX hP (mm_l5 (n := L.1) hin13) rfl rfl rfl hin14 d_LA_want_52 ?_
              refine lv_astore hx hb d_LA_want_53 hl (Nat.lt_of_lt_of_le (Nat.lt_succ_self _) (Nat.le_of_ble_eq_true rfl)) rfl (fun ls hl => ?_)
              have hl : lv_has ls 5 [(4, .ref (L.2.1 8 (12 * x2.toNatClampNeg + x1.toNatClampNeg))), (0, .ref (L.2.1 0 r0)), (1, .int x1), (2, .int x2), (3, .int x3)] := hl
              refine lv_aload hx hb d_LA_want_55 (lv_at hl 0 rfl) ?_
              rcases mm_bd_some h with ⟨z15, g16, hf17, h⟩ | ⟨xe, z15, g16, hf17, h⟩
              · refine mm_goR (v := (some (.int z15))) (mm_goV (As := []) (rest := []) hX (c_De_isFull (mm_l8 (n := L.1) (mm_l5 (n := L.1) hin13) hin14) hf17) yw_De_isFull wt_342 wt_343 wt_344 hP hF (mm_recv (h := 8) (i := (12 * x2.toNatClampNeg + x1.toNatClampNeg)) hX hP (mm_l8 (n := L.1) (mm_l5 (n := L.1) hin13) hin14) rfl rfl) rfl hl.1 (Nat.le_of_ble_eq_true rfl) (by decide) (by decide) hRc hRs d_LA_want_57) hF (fun H locs hP hF _ => ?_)
                refine lv_if_ne (tgt := 72) hx hb d_LA_want_60 rfl (fun hc => ?_) (fun hc => ?_)
                · have h := mm_neg hc h
                  exact w_LA_want_b72 hX h hP hF (lv_sub (l' := []) hl [] rfl)
                · have h := mm_pos hc h
                  refine lv_aload hx hb d_LA_want_63 (lv_at hl 0 rfl) ?_
                  refine lv_iload_n hx hb d_LA_want_65 rfl (lv_at hl 4 rfl) ?_
                  rcases mm_bd_some h with ⟨z18, g19, hf20, h⟩ | ⟨xe, z18, g19, hf20, h⟩
                  · refine mm_goR (v := (some (.int z18))) (mm_goV (As := [.int x3]) (rest := []) hX (c_De_hasInQueue (mm_l8 (n := L.1) (mm_l5 (n := L.1) hin13) hin14) hf20) yw_De_hasInQueue wt_346 wt_347 wt_348 hP hF (mm_recv (h := 8) (i := (12 * x2.toNatClampNeg + x1.toNatClampNeg)) hX hP (mm_l8 (n := L.1) (mm_l5 (n := L.1) hin13) hin14) rfl rfl) rfl hl.1 (Nat.le_of_ble_eq_true rfl) (by decide) (by decide) hRc hRs d_LA_want_66) hF (fun H locs hP hF _ => ?_)
                    refine lv_if_eq (tgt := 82) hx hb d_LA_want_69 rfl (fun hc => ?_) (fun hc => ?_)
                    · have h := mm_pos hc h
                      refine lv_aload hx hb d_LA_want_82 (lv_at hl 0 rfl) ?_
                      refine lv_iload_n hx hb d_LA_want_84 rfl (lv_at hl 4 rfl) ?_
                      rcases mm_bd_some h with ⟨z21, g22, hf23, h⟩ | ⟨xe, z21, g22, hf23, h⟩
                      · refine mm_goR (v := none) (mm_goV (As := [.int x3]) (rest := []) hX (c_De_enqueue (mm_l8 (n := L.1) (mm_l5 (n := L.1) hin13) hin14) hf23) yw_De_enqueue wt_351 wt_352 wt_353 hP hF (mm_recv (h := 8) (i := (12 * x2.toNatClampNeg + x1.toNatClampNeg)) hX hP (mm_l8 (n := L.1) (mm_l5 (n := L.1) hin13) hin14) rfl rfl) rfl hl.1 (Nat.le_of_ble_eq_true rfl) (by decide) (by decide) hRc hRs d_LA_want_85) hF (fun H locs hP hF _ => ?_)
                        refine lv_aload hx hb d_LA_want_88 (lv_at hl 0 rfl) ?_
                        refine mm_getN (h := 8) (i := (12 * x2.toNatClampNeg + x1.toNatClampNeg)) 4 hX hP (mm_l8 (n := L.1) (mm_l5 (n := L.1) hin13) hin14) rfl rfl uin_8 (by decide) ⟨rfl, rfl, rfl⟩ wn_65 rfl d_LA_want_90 ?_
                        refine lv_if_eq (tgt := 105) hx hb d_LA_want_93 rfl (fun hc => ?_) (fun hc => ?_)
                        · have h := mm_pos hc h
                          exact w_LA_want_b105 hX h hP hF (lv_sub (l' := [(0, .ref (L.2.1 0 r0)), (1, .int x1), (2, .int x2), (4, .ref (L.2.1 8 (12 * x2.toNatClampNeg + x1.toNatClampNeg)))]) hl [1, 2, 3, 0] rfl) hv_r0 (mm_l8 (n := L.1) (mm_l5 (n := L.1) hin13) hin14)
                        · have h := mm_neg hc h
                          refine lv_aload hx hb d_LA_want_96 (lv_at hl 0 rfl) ?_
                          refine mm_getN (h := 8) (i := (12 * x2.toNatClampNeg + x1.toNatClampNeg)) 4 hX hP (mm_l8 (n := L.1) (mm_l5 (n := L.1) hin13) hin14) rfl rfl uin_8 (by decide) ⟨rfl, rfl, rfl⟩ wn_65 rfl d_LA_want_98 ?_
                          refine lv_iconst (v := 4) hx hb d_LA_want_101 (by decide) ?_
                          refine lv_icmp_ne (tgt := 111) hx hb d_LA_want_102 rfl (fun hc => ?_) (fun hc => ?_)
                          · have h := mm_neg hc h
                            exact w_LA_want_b111 hX h hP hF (lv_sub (l' := [(4, .ref (L.2.1 8 (12 * x2.toNatClampNeg + x1.toNatClampNeg)))]) hl [0] rfl) (mm_l8 (n := L.1) (mm_l5 (n := L.1) hin13) hin14)
                          · have h := mm_pos hc h
                            exact w_LA_want_b105 hX h hP hF (lv_sub (l' := [(0, .ref (L.2.1 0 r0)), (1, .int x1), (2, .int x2), (4, .ref (L.2.1 8 (12 * x2.toNatClampNeg + x1.toNatClampNeg)))]) hl [1, 2, 3, 0] rfl) hv_r0 (mm_l8 (n := L.1) (mm_l5 (n := L.1) hin13) hin14)
                      · cases h
                        exact mm_goT (x := xe + 1) (mm_goV (As := [.int x3]) (rest := []) hX (c_De_enqueue (mm_l8 (n := L.1) (mm_l5 (n := L.1) hin13) hin14) hf23) yw_De_enqueue wt_351 wt_352 wt_353 hP hF (mm_recv (h := 8) (i := (12 * x2.toNatClampNeg + x1.toNatClampNeg)) hX hP (mm_l8 (n := L.1) (mm_l5 (n := L.1) hin13) hin14) rfl rfl) rfl hl.1 (Nat.le_of_ble_eq_true rfl) (by decide) (by decide) hRc hRs d_LA_want_85) hF hex hlk
                    · have h := mm_neg hc h
                      exact w_LA_want_b72 hX h hP hF (lv_sub (l' := []) hl [] rfl)
                  · cases h
                    exact mm_goT (x := xe + 1) (mm_goV (As := [.int x3]) (rest := []) hX (c_De_hasInQueue (mm_l8 (n := L.1) (mm_l5 (n := L.1) hin13) hin14) hf20) yw_De_hasInQueue wt_346 wt_347 wt_348 hP hF (mm_recv (h := 8) (i := (12 * x2.toNatClampNeg + x1.toNatClampNeg)) hX hP (mm_l8 (n := L.1) (mm_l5 (n := L.1) hin13) hin14) rfl rfl) rfl hl.1 (Nat.le_of_ble_eq_true rfl) (by decide) (by decide) hRc hRs d_LA_want_66) hF hex hlk
              · cases h
                exact mm_goT (x := xe + 1) (mm_goV (As := []) (rest := []) hX (c_De_isFull (mm_l8 (n := L.1) (mm_l5 (n := L.1) hin13) hin14) hf17) yw_De_isFull wt_342 wt_343 wt_344 hP hF (mm_recv (h := 8) (i := (12 * x2.toNatClampNeg + x1.toNatClampNeg)) hX hP (mm_l8 (n := L.1) (mm_l5 (n := L.1) hin13) hin14) rfl rfl) rfl hl.1 (Nat.le_of_ble_eq_true rfl) (by decide) (by decide) hRc hRs d_LA_want_57) hF hex hlk
            · cases h
              exact mm_goT (x := xe + 1) (mm_goV (As := [.int x1]) (rest := []) hX (c_LA_requireUp hv_r0 hf12) yw_LA_requireUp wt_337 wt_339 ws_0_4 hP hF (mm_recv (h := 0) (i := r0) hX hP hv_r0 rfl rfl) rfl hl.1 (Nat.le_of_ble_eq_true rfl) (by decide) (by decide) hRc hRs d_LA_want_39) hF hex hlk
          · cases h
            exact mm_goT (x := xe + 1) (mm_goV (As := [.int x2]) (rest := []) hX (c_LA_requirePlaced hv_r0 hf9) yw_LA_requirePlaced wt_332 wt_334 ws_0_3 hP hF (mm_recv (h := 0) (i := r0) hX hP hv_r0 rfl rfl) rfl hl.1 (Nat.le_of_ble_eq_true rfl) (by decide) (by decide) hRc hRs d_LA_want_34) hF hex hlk
        · have h := mm_neg hc h
          exact w_LA_want_b22 hX h hP hF (lv_sub (l' := []) hl [] rfl)
    · cases h
      exact mm_goT (x := xe + 1) (mm_goV (As := [.int x2]) (rest := []) hX (c_LA_requireCopy hv_r0 hf6) yw_LA_requireCopy wt_203 wt_205 ws_0_0 hP hF (mm_recv (h := 0) (i := r0) hX hP hv_r0 rfl rfl) rfl hl.1 (Nat.le_of_ble_eq_true rfl) (by decide) (by decide) hRc hRs d_LA_want_7) hF hex hlk
  · cases h
    exact mm_goT (x := xe + 1) (mm_goV (As := [.int x1]) (rest := []) hX (c_LA_requireLibrary hv_r0 hf3) yw_LA_requireLibrary wt_275 wt_277 ws_0_2 hP hF (mm_recv (h := 0) (i := r0) hX hP hv_r0 rfl rfl) rfl hl.1 (Nat.le_of_ble_eq_true rfl) (by decide) (by decide) hRc hRs d_LA_want_2) hF hex hlk
set_option maxRecDepth 100000 in
set_option maxHeartbeats 4000000 in
theorem c_LA_want {l : Launch} {L : mm_L} {g g' : mm_M} {eo : Nat} {v : Int32} {r0 : Nat} {x1 : Int32} {x2 : Int32} {x3 : Int32} (hv_r0 : mm_lv L.1 0 r0) (h : f_LA_want L.1 g r0 x1 x2 x3 = some (eo, v, g')) : mm_C l y_LA_want prog_1_method_3_code 5 (some .int) 7 103 L [.ref (L.2.1 0 r0), .int x1, .int x2, .int x3] g (mm_oi eo v) g' := by
  intro p e R s m below meth c hX hP
  refine mm_enter (Nat.le_of_ble_eq_true rfl) fun ls hl => ?_
  exact w_LA_want hX h hP (fun q hq => by cases hq) (lv_sub (l' := [(0, .ref (L.2.1 0 r0)), (1, .int x1), (2, .int x2), (3, .int x3)]) hl [0, 1, 2, 3] rfl) hv_r0
def f_LA_requireState (n : Nat) (g : mm_M) (r0 : Nat) (x1 : Int32) : Option (Nat × Int32 × mm_M) :=
  (if (g 8 r0 4) = x1 then some (0, 0, g) else some (3, 0, g))
set_option maxRecDepth 100000 in
set_option maxHeartbeats 4000000 in
theorem w_LA_requireState {p : Program} {l : Launch} {e : Env} {R : Room} {s : State} {m : MethodId} {args : Array Value} {below : List Frame} {meth : Method} {c : Code} {L : mm_L} {eo : Nat} {v : Int32} {g' : mm_M} {g : mm_M} {r0 : Nat} {x1 : Int32} {H : Heap} {locs : List Loc} {ls : Array Slot} (hX : mm_X L prog_1_method_30_code 2 "LoanArrows" none 6 82 p l R s m meth c) (h : f_LA_requireState L.1 g r0 x1 = some (eo, v, g')) (hP : mm_P L g H) (hF : ∀ q ∈ locs, mm_F L q.base) (hl : lv_has ls 2 [(0, .ref (L.2.1 8 r0)), (1, .int x1)]) (hv_r0 : mm_lv L.1 8 r0) : W p l e R s m args below meth c H locs 0 0 (mm_Q below L s (mm_ov eo v) g') (F0 m 0 ls []) := by
  have hX0 := hX
  obtain ⟨hx, hb, hml, hown, hr, hlk, hex, hRf, hRl, hRc, hRs, hJ, hK, hst, h00⟩ := hX0
  unfold f_LA_requireState at h
  refine lv_aload_n hx hb d_LA_requireState_0 rfl (lv_at hl 0 rfl) ?_
  refine mm_getN (h := 8) (i := r0) 4 hX hP hv_r0 rfl rfl uin_8 (by decide) ⟨rfl, rfl, rfl⟩ wn_65 rfl d_LA_requireState_1 ?_
  refine lv_iload_n hx hb d_LA_requireState_4 rfl (lv_at hl 1 rfl) ?_
  refine lv_icmp_eq (tgt := 18) hx hb d_LA_requireState_5 rfl (fun hc => ?_) (fun hc => ?_)
  · have h := mm_pos hc h
    cases h
    exact mm_vret hx hb hr hlk hP hF d_LA_requireState_18
  · have h := mm_neg hc h
    cases h
    exact mm_throw (x := 3) (names := mm_nm) hX hP hF wt_284 wt_285 wt_13 (show ("LoanArrows", 224, "the library's state does not allow it") ∈ mm_str by decide +kernel) at_LA_65 (by decide +kernel) mm_nm_fit hl.1 (by decide) (by decide) d_LA_requireState_8 d_LA_requireState_11 d_LA_requireState_12 d_LA_requireState_14 d_LA_requireState_17
set_option maxRecDepth 100000 in
set_option maxHeartbeats 4000000 in
theorem c_LA_requireState {l : Launch} {L : mm_L} {g g' : mm_M} {eo : Nat} {v : Int32} {r0 : Nat} {x1 : Int32} (hv_r0 : mm_lv L.1 8 r0) (h : f_LA_requireState L.1 g r0 x1 = some (eo, v, g')) : mm_C l y_LA_requireState prog_1_method_30_code 2 none 6 82 L [.ref (L.2.1 8 r0), .int x1] g (mm_ov eo v) g' := by
  intro p e R s m below meth c hX hP
  refine mm_enter (Nat.le_of_ble_eq_true rfl) fun ls hl => ?_
  exact w_LA_requireState hX h hP (fun q hq => by cases hq) (lv_sub (l' := [(0, .ref (L.2.1 8 r0)), (1, .int x1)]) hl [0, 1] rfl) hv_r0
def f_LA_lend (n : Nat) (g : mm_M) (r0 : Nat) (x1 : Int32) (x2 : Int32) : Option (Nat × Int32 × mm_M) :=
  mm_bd (f_LA_requireLibrary n g r0 x1) 0 (fun z1 g2 => mm_bd (f_LA_requireCopy n g2 x2) 0 (fun z4 g5 => mm_bd (f_LA_requireUp n g5 r0 x1) 0 (fun z7 g8 => mm_ix x2 3 (mm_ix x1 n (mm_bd (f_LA_requireState n g8 (12 * x2.toNatClampNeg + x1.toNatClampNeg) 2) 0 (fun z12 g13 => mm_bd (f_De_dequeue n g13 (12 * x2.toNatClampNeg + x1.toNatClampNeg)) 0 (fun z15 g16 => mm_let (mm_st g16 8 (12 * x2.toNatClampNeg + x1.toNatClampNeg) 5 z15) (fun g18 => mm_let (mm_st g18 8 (12 * x2.toNatClampNeg + x1.toNatClampNeg) 4 3) (fun g20 => some (0, (g20 8 (12 * x2.toNatClampNeg + x1.toNatClampNeg) 5), g20))))))))))
set_option maxRecDepth 100000 in
set_option maxHeartbeats 4000000 in
theorem w_LA_lend {p : Program} {l : Launch} {e : Env} {R : Room} {s : State} {m : MethodId} {args : Array Value} {below : List Frame} {meth : Method} {c : Code} {L : mm_L} {eo : Nat} {v : Int32} {g' : mm_M} {g : mm_M} {r0 : Nat} {x1 : Int32} {x2 : Int32} {H : Heap} {locs : List Loc} {ls : Array Slot} (hX : mm_X L prog_1_method_4_code 4 "LoanArrows" (some .int) 7 103 p l R s m meth c) (h : f_LA_lend L.1 g r0 x1 x2 = some (eo, v, g')) (hP : mm_P L g H) (hF : ∀ q ∈ locs, mm_F L q.base) (hl : lv_has ls 4 [(0, .ref (L.2.1 0 r0)), (1, .int x1), (2, .int x2)]) (hv_r0 : mm_lv L.1 0 r0) : W p l e R s m args below meth c H locs 0 0 (mm_Q below L s (mm_oi eo v) g') (F0 m 0 ls []) := by
  have hX0 := hX
  obtain ⟨hx, hb, hml, hown, hr, hlk, hex, hRf, hRl, hRc, hRs, hJ, hK, hst, h00⟩ := hX0
  unfold f_LA_lend at h
  refine lv_aload_n hx hb d_LA_lend_0 rfl (lv_at hl 0 rfl) ?_
  refine lv_iload_n hx hb d_LA_lend_1 rfl (lv_at hl 1 rfl) ?_
  rcases mm_bd_some h with ⟨z1, g2, hf3, h⟩ | ⟨xe, z1, g2, hf3, h⟩
  · refine mm_goR (v := none) (mm_goV (As := [.int x1]) (rest := []) hX (c_LA_requireLibrary hv_r0 hf3) yw_LA_requireLibrary wt_275 wt_277 ws_0_2 hP hF (mm_recv (h := 0) (i := r0) hX hP hv_r0 rfl rfl) rfl hl.1 (Nat.le_of_ble_eq_true rfl) (by decide) (by decide) hRc hRs d_LA_lend_2) hF (fun H locs hP hF _ => ?_)
    refine lv_aload_n hx hb d_LA_lend_5 rfl (lv_at hl 0 rfl) ?_
    refine lv_iload_n hx hb d_LA_lend_6 rfl (lv_at hl 2 rfl) ?_
    rcases mm_bd_some h with ⟨z4, g5, hf6, h⟩ | ⟨xe, z4, g5, hf6, h⟩
    · refine mm_goR (v := none) (mm_goV (As := [.int x2]) (rest := []) hX (c_LA_requireCopy hv_r0 hf6) yw_LA_requireCopy wt_203 wt_205 ws_0_0 hP hF (mm_recv (h := 0) (i := r0) hX hP hv_r0 rfl rfl) rfl hl.1 (Nat.le_of_ble_eq_true rfl) (by decide) (by decide) hRc hRs d_LA_lend_7) hF (fun H locs hP hF _ => ?_)
      refine lv_aload_n hx hb d_LA_lend_10 rfl (lv_at hl 0 rfl) ?_
      refine lv_iload_n hx hb d_LA_lend_11 rfl (lv_at hl 1 rfl) ?_
      rcases mm_bd_some h with ⟨z7, g8, hf9, h⟩ | ⟨xe, z7, g8, hf9, h⟩
      · refine mm_goR (v := none) (mm_goV (As := [.int x1]) (rest := []) hX (c_LA_requireUp hv_r0 hf9) yw_LA_requireUp wt_337 wt_339 ws_0_4 hP hF (mm_recv (h := 0) (i := r0) hX hP hv_r0 rfl rfl) rfl hl.1 (Nat.le_of_ble_eq_true rfl) (by decide) (by decide) hRc hRs d_LA_lend_12) hF (fun H locs hP hF _ => ?_)
        refine lv_aload_n hx hb d_LA_lend_15 rfl (lv_at hl 0 rfl) ?_
        refine mm_get (h := 0) (i := r0) 3 hX hP hv_r0 rfl rfl uin_0 (by decide) ⟨rfl, rfl, rfl⟩ wt_159 rfl d_LA_lend_16 ?_
        refine lv_iload_n hx hb d_LA_lend_19 rfl (lv_at hl 2 rfl) ?_
        obtain ⟨hin10, h⟩ := mm_ix_some h
        refine mm_aald (t := 2) (h := 4) (i := 0) hX hP mm_ls4 rfl rfl rfl hin10 d_LA_lend_20 ?_
        refine mm_getN (h := 5) (i := x2.toNatClampNeg) 0 hX hP (mm_l5 (n := L.1) hin10) rfl rfl uin_5 (by decide) ⟨rfl, rfl, rfl⟩ wn_81 rfl d_LA_lend_21 ?_
        refine lv_iload_n hx hb d_LA_lend_24 rfl (lv_at hl 1 rfl) ?_
        obtain ⟨hin11, h⟩ := mm_ix_some h
        refine mm_aald (t := 3) (h := 6) (i := x2.toNatClampNeg) hX hP (mm_l5 (n := L.1) hin10) rfl rfl rfl hin11 d_LA_lend_25 ?_
        refine lv_astore_n hx hb d_LA_lend_26 rfl hl (Nat.lt_of_lt_of_le (Nat.lt_succ_self _) (Nat.le_of_ble_eq_true rfl)) rfl (fun ls hl => ?_)
        have hl : lv_has ls 4 [(3, .ref (L.2.1 8 (12 * x2.toNatClampNeg + x1.toNatClampNeg))), (0, .ref (L.2.1 0 r0)), (1, .int x1), (2, .int x2)] := hl
        refine lv_aload_n hx hb d_LA_lend_27 rfl (lv_at hl 0 rfl) ?_
        refine lv_iconst (v := 2) hx hb d_LA_lend_28 (by decide) ?_
        rcases mm_bd_some h with ⟨z12, g13, hf14, h⟩ | ⟨xe, z12, g13, hf14, h⟩
        · refine mm_goR (v := none) (mm_goS (As := [.ref (L.2.1 8 (12 * x2.toNatClampNeg + x1.toNatClampNeg)), .int 2]) (rest := []) hX (c_LA_requireState (mm_l8 (n := L.1) (mm_l5 (n := L.1) hin10) hin11) hf14) yw_LA_requireState wt_398 wt_399 wt_1 hP hF rfl hl.1 (Nat.le_of_ble_eq_true rfl) (by decide) (by decide) hRc hRs d_LA_lend_29) hF (fun H locs hP hF _ => ?_)
          refine lv_aload_n hx hb d_LA_lend_32 rfl (lv_at hl 0 rfl) ?_
          refine lv_aload_n hx hb d_LA_lend_33 rfl (lv_at hl 0 rfl) ?_
          rcases mm_bd_some h with ⟨z15, g16, hf17, h⟩ | ⟨xe, z15, g16, hf17, h⟩
          · refine mm_goR (v := (some (.int z15))) (mm_goV (As := []) (rest := [.ref (L.2.1 8 (12 * x2.toNatClampNeg + x1.toNatClampNeg))]) hX (c_De_dequeue (mm_l8 (n := L.1) (mm_l5 (n := L.1) hin10) hin11) hf17) yw_De_dequeue wt_402 wt_403 wt_404 hP hF (mm_recv (h := 8) (i := (12 * x2.toNatClampNeg + x1.toNatClampNeg)) hX hP (mm_l8 (n := L.1) (mm_l5 (n := L.1) hin10) hin11) rfl rfl) rfl hl.1 (Nat.le_of_ble_eq_true rfl) (by decide) (by decide) hRc hRs d_LA_lend_34) hF (fun H locs hP hF _ => ?_)
            refine mm_putN (h := 8) (i := (12 * x2.toNatClampNeg + x1.toNatClampNeg)) 5 hX hP hF (mm_l8 (n := L.1) (mm_l5 (n := L.1) hin10) hin11) rfl rfl rfl uin_8 ty_8 tyok_8 nmok_8 (by decide) ⟨rfl, rfl, rfl⟩ rfl wn_66 rfl rfl rfl (Nat.le_of_ble_eq_true rfl) d_LA_lend_37 (fun H locs hP hF => ?_)
            obtain ⟨g18, e19, h⟩ := mm_let_ex h
            have hP : mm_P L g18 H := by rw [e19]; exact hP
            refine lv_aload_n hx hb d_LA_lend_40 rfl (lv_at hl 0 rfl) ?_
            refine lv_iconst (v := 3) hx hb d_LA_lend_41 (by decide) ?_
            refine mm_putN (h := 8) (i := (12 * x2.toNatClampNeg + x1.toNatClampNeg)) 4 hX hP hF (mm_l8 (n := L.1) (mm_l5 (n := L.1) hin10) hin11) rfl rfl rfl uin_8 ty_8 tyok_8 nmok_8 (by decide) ⟨rfl, rfl, rfl⟩ rfl wn_65 rfl rfl rfl (Nat.le_of_ble_eq_true rfl) d_LA_lend_42 (fun H locs hP hF => ?_)
            obtain ⟨g20, e21, h⟩ := mm_let_ex h
            have hP : mm_P L g20 H := by rw [e21]; exact hP
            refine lv_aload_n hx hb d_LA_lend_45 rfl (lv_at hl 0 rfl) ?_
            refine mm_getN (h := 8) (i := (12 * x2.toNatClampNeg + x1.toNatClampNeg)) 5 hX hP (mm_l8 (n := L.1) (mm_l5 (n := L.1) hin10) hin11) rfl rfl uin_8 (by decide) ⟨rfl, rfl, rfl⟩ wn_66 rfl d_LA_lend_46 ?_
            cases h
            exact mm_iret hx hb hr hlk hP hF d_LA_lend_49
          · cases h
            exact mm_goT (x := xe + 1) (mm_goV (As := []) (rest := [.ref (L.2.1 8 (12 * x2.toNatClampNeg + x1.toNatClampNeg))]) hX (c_De_dequeue (mm_l8 (n := L.1) (mm_l5 (n := L.1) hin10) hin11) hf17) yw_De_dequeue wt_402 wt_403 wt_404 hP hF (mm_recv (h := 8) (i := (12 * x2.toNatClampNeg + x1.toNatClampNeg)) hX hP (mm_l8 (n := L.1) (mm_l5 (n := L.1) hin10) hin11) rfl rfl) rfl hl.1 (Nat.le_of_ble_eq_true rfl) (by decide) (by decide) hRc hRs d_LA_lend_34) hF hex hlk
        · cases h
          exact mm_goT (x := xe + 1) (mm_goS (As := [.ref (L.2.1 8 (12 * x2.toNatClampNeg + x1.toNatClampNeg)), .int 2]) (rest := []) hX (c_LA_requireState (mm_l8 (n := L.1) (mm_l5 (n := L.1) hin10) hin11) hf14) yw_LA_requireState wt_398 wt_399 wt_1 hP hF rfl hl.1 (Nat.le_of_ble_eq_true rfl) (by decide) (by decide) hRc hRs d_LA_lend_29) hF hex hlk
      · cases h
        exact mm_goT (x := xe + 1) (mm_goV (As := [.int x1]) (rest := []) hX (c_LA_requireUp hv_r0 hf9) yw_LA_requireUp wt_337 wt_339 ws_0_4 hP hF (mm_recv (h := 0) (i := r0) hX hP hv_r0 rfl rfl) rfl hl.1 (Nat.le_of_ble_eq_true rfl) (by decide) (by decide) hRc hRs d_LA_lend_12) hF hex hlk
    · cases h
      exact mm_goT (x := xe + 1) (mm_goV (As := [.int x2]) (rest := []) hX (c_LA_requireCopy hv_r0 hf6) yw_LA_requireCopy wt_203 wt_205 ws_0_0 hP hF (mm_recv (h := 0) (i := r0) hX hP hv_r0 rfl rfl) rfl hl.1 (Nat.le_of_ble_eq_true rfl) (by decide) (by decide) hRc hRs d_LA_lend_7) hF hex hlk
  · cases h
    exact mm_goT (x := xe + 1) (mm_goV (As := [.int x1]) (rest := []) hX (c_LA_requireLibrary hv_r0 hf3) yw_LA_requireLibrary wt_275 wt_277 ws_0_2 hP hF (mm_recv (h := 0) (i := r0) hX hP hv_r0 rfl rfl) rfl hl.1 (Nat.le_of_ble_eq_true rfl) (by decide) (by decide) hRc hRs d_LA_lend_2) hF hex hlk
set_option maxRecDepth 100000 in
set_option maxHeartbeats 4000000 in
theorem c_LA_lend {l : Launch} {L : mm_L} {g g' : mm_M} {eo : Nat} {v : Int32} {r0 : Nat} {x1 : Int32} {x2 : Int32} (hv_r0 : mm_lv L.1 0 r0) (h : f_LA_lend L.1 g r0 x1 x2 = some (eo, v, g')) : mm_C l y_LA_lend prog_1_method_4_code 4 (some .int) 7 103 L [.ref (L.2.1 0 r0), .int x1, .int x2] g (mm_oi eo v) g' := by
  intro p e R s m below meth c hX hP
  refine mm_enter (Nat.le_of_ble_eq_true rfl) fun ls hl => ?_
  exact w_LA_lend hX h hP (fun q hq => by cases hq) (lv_sub (l' := [(0, .ref (L.2.1 0 r0)), (1, .int x1), (2, .int x2)]) hl [0, 1, 2] rfl) hv_r0
def f_LA_giveBack_b68 (n : Nat) (g : mm_M) (r3 : Nat) (u0 : Nat) (t1 : Int32) : Option (Nat × Int32 × mm_M) :=
  mm_let (mm_st g 8 u0 4 t1) (fun g1 => some (0, (g1 8 r3 4), g1))
set_option maxRecDepth 100000 in
set_option maxHeartbeats 4000000 in
theorem w_LA_giveBack_b68 {p : Program} {l : Launch} {e : Env} {R : Room} {s : State} {m : MethodId} {args : Array Value} {below : List Frame} {meth : Method} {c : Code} {L : mm_L} {eo : Nat} {v : Int32} {g' : mm_M} {g : mm_M} {r3 : Nat} {u0 : Nat} {t1 : Int32} {H : Heap} {locs : List Loc} {ls : Array Slot} (hX : mm_X L prog_1_method_5_code 4 "LoanArrows" (some .int) 7 103 p l R s m meth c) (h : f_LA_giveBack_b68 L.1 g r3 u0 t1 = some (eo, v, g')) (hP : mm_P L g H) (hF : ∀ q ∈ locs, mm_F L q.base) (hl : lv_has ls 4 [(3, .ref (L.2.1 8 r3))]) (hv_r3 : mm_lv L.1 8 r3) (hv_u0 : mm_lv L.1 8 u0) : W p l e R s m args below meth c H locs 0 0 (mm_Q below L s (mm_oi eo v) g') (F0 m 68 ls [.int t1, .ref (L.2.1 8 u0)]) := by
  have hX0 := hX
  obtain ⟨hx, hb, hml, hown, hr, hlk, hex, hRf, hRl, hRc, hRs, hJ, hK, hst, h00⟩ := hX0
  unfold f_LA_giveBack_b68 at h
  refine mm_putN (h := 8) (i := u0) 4 hX hP hF hv_u0 rfl rfl rfl uin_8 ty_8 tyok_8 nmok_8 (by decide) ⟨rfl, rfl, rfl⟩ rfl wn_65 rfl rfl rfl (Nat.le_of_ble_eq_true rfl) d_LA_giveBack_68 (fun H locs hP hF => ?_)
  obtain ⟨g1, e2, h⟩ := mm_let_ex h
  have hP : mm_P L g1 H := by rw [e2]; exact hP
  refine lv_aload_n hx hb d_LA_giveBack_71 rfl (lv_at hl 0 rfl) ?_
  refine mm_getN (h := 8) (i := r3) 4 hX hP hv_r3 rfl rfl uin_8 (by decide) ⟨rfl, rfl, rfl⟩ wn_65 rfl d_LA_giveBack_72 ?_
  cases h
  exact mm_iret hx hb hr hlk hP hF d_LA_giveBack_75
def f_LA_giveBack_b99 (n : Nat) (g : mm_M) (r3 : Nat) : Option (Nat × Int32 × mm_M) :=
  some (0, (g 8 r3 4), g)
set_option maxRecDepth 100000 in
set_option maxHeartbeats 4000000 in
theorem w_LA_giveBack_b99 {p : Program} {l : Launch} {e : Env} {R : Room} {s : State} {m : MethodId} {args : Array Value} {below : List Frame} {meth : Method} {c : Code} {L : mm_L} {eo : Nat} {v : Int32} {g' : mm_M} {g : mm_M} {r3 : Nat} {H : Heap} {locs : List Loc} {ls : Array Slot} (hX : mm_X L prog_1_method_5_code 4 "LoanArrows" (some .int) 7 103 p l R s m meth c) (h : f_LA_giveBack_b99 L.1 g r3 = some (eo, v, g')) (hP : mm_P L g H) (hF : ∀ q ∈ locs, mm_F L q.base) (hl : lv_has ls 4 [(3, .ref (L.2.1 8 r3))]) (hv_r3 : mm_lv L.1 8 r3) : W p l e R s m args below meth c H locs 0 0 (mm_Q below L s (mm_oi eo v) g') (F0 m 99 ls []) := by
  have hX0 := hX
  obtain ⟨hx, hb, hml, hown, hr, hlk, hex, hRf, hRl, hRc, hRs, hJ, hK, hst, h00⟩ := hX0
  unfold f_LA_giveBack_b99 at h
  refine lv_aload_n hx hb d_LA_giveBack_99 rfl (lv_at hl 0 rfl) ?_
  refine mm_getN (h := 8) (i := r3) 4 hX hP hv_r3 rfl rfl uin_8 (by decide) ⟨rfl, rfl, rfl⟩ wn_65 rfl d_LA_giveBack_100 ?_
  cases h
  exact mm_iret hx hb hr hlk hP hF d_LA_giveBack_103
def f_LA_giveBack (n : Nat) (g : mm_M) (r0 : Nat) (x1 : Int32) (x2 : Int32) : Option (Nat × Int32 × mm_M) :=
  mm_bd (f_LA_requireLibrary n g r0 x1) 0 (fun z1 g2 => mm_bd (f_LA_requireCopy n g2 x2) 0 (fun z4 g5 => mm_bd (f_LA_requireUp n g5 r0 x1) 0 (fun z7 g8 => mm_ix x2 3 (mm_ix x1 n (mm_bd (f_LA_requireState n g8 (12 * x2.toNatClampNeg + x1.toNatClampNeg) 3) 0 (fun z12 g13 => mm_let (mm_st g13 8 (12 * x2.toNatClampNeg + x1.toNatClampNeg) 5 0) (fun g15 => mm_ix x2 3 (mm_bd (f_Co_recordLoan n g15 x2.toNatClampNeg x1) 0 (fun z18 g19 => (if (g19 8 (12 * x2.toNatClampNeg + x1.toNatClampNeg) 3) = (-1) then (if (g19 8 (12 * x2.toNatClampNeg + x1.toNatClampNeg) 1) = 0 then f_LA_giveBack_b68 n g19 (12 * x2.toNatClampNeg + x1.toNatClampNeg) (12 * x2.toNatClampNeg + x1.toNatClampNeg) 4 else f_LA_giveBack_b68 n g19 (12 * x2.toNatClampNeg + x1.toNatClampNeg) (12 * x2.toNatClampNeg + x1.toNatClampNeg) 2) else mm_ix x2 3 (mm_bd (f_Co_sendOn n g19 x2.toNatClampNeg x1) 0 (fun z22 g23 => (if (g23 8 (12 * x2.toNatClampNeg + x1.toNatClampNeg) 1) ≤ 0 then f_LA_giveBack_b99 n g23 (12 * x2.toNatClampNeg + x1.toNatClampNeg) else mm_bd (f_LA_openRequest n g23 r0 x1 x2) 0 (fun z25 g26 => f_LA_giveBack_b99 n g26 (12 * x2.toNatClampNeg + x1.toNatClampNeg)))))))))))))))
set_option maxRecDepth 100000 in
set_option maxHeartbeats 4000000 in
theorem w_LA_giveBack {p : Program} {l : Launch} {e : Env} {R : Room} {s : State} {m : MethodId} {args : Array Value} {below : List Frame} {meth : Method} {c : Code} {L : mm_L} {eo : Nat} {v : Int32} {g' : mm_M} {g : mm_M} {r0 : Nat} {x1 : Int32} {x2 : Int32} {H : Heap} {locs : List Loc} {ls : Array Slot} (hX : mm_X L prog_1_method_5_code 4 "LoanArrows" (some .int) 7 103 p l R s m meth c) (h : f_LA_giveBack L.1 g r0 x1 x2 = some (eo, v, g')) (hP : mm_P L g H) (hF : ∀ q ∈ locs, mm_F L q.base) (hl : lv_has ls 4 [(0, .ref (L.2.1 0 r0)), (1, .int x1), (2, .int x2)]) (hv_r0 : mm_lv L.1 0 r0) : W p l e R s m args below meth c H locs 0 0 (mm_Q below L s (mm_oi eo v) g') (F0 m 0 ls []) := by
  have hX0 := hX
  obtain ⟨hx, hb, hml, hown, hr, hlk, hex, hRf, hRl, hRc, hRs, hJ, hK, hst, h00⟩ := hX0
  unfold f_LA_giveBack at h
  refine lv_aload_n hx hb d_LA_giveBack_0 rfl (lv_at hl 0 rfl) ?_
  refine lv_iload_n hx hb d_LA_giveBack_1 rfl (lv_at hl 1 rfl) ?_
  rcases mm_bd_some h with ⟨z1, g2, hf3, h⟩ | ⟨xe, z1, g2, hf3, h⟩
  · refine mm_goR (v := none) (mm_goV (As := [.int x1]) (rest := []) hX (c_LA_requireLibrary hv_r0 hf3) yw_LA_requireLibrary wt_275 wt_277 ws_0_2 hP hF (mm_recv (h := 0) (i := r0) hX hP hv_r0 rfl rfl) rfl hl.1 (Nat.le_of_ble_eq_true rfl) (by decide) (by decide) hRc hRs d_LA_giveBack_2) hF (fun H locs hP hF _ => ?_)
    refine lv_aload_n hx hb d_LA_giveBack_5 rfl (lv_at hl 0 rfl) ?_
    refine lv_iload_n hx hb d_LA_giveBack_6 rfl (lv_at hl 2 rfl) ?_
    rcases mm_bd_some h with ⟨z4, g5, hf6, h⟩ | ⟨xe, z4, g5, hf6, h⟩
    · refine mm_goR (v := none) (mm_goV (As := [.int x2]) (rest := []) hX (c_LA_requireCopy hv_r0 hf6) yw_LA_requireCopy wt_203 wt_205 ws_0_0 hP hF (mm_recv (h := 0) (i := r0) hX hP hv_r0 rfl rfl) rfl hl.1 (Nat.le_of_ble_eq_true rfl) (by decide) (by decide) hRc hRs d_LA_giveBack_7) hF (fun H locs hP hF _ => ?_)
      refine lv_aload_n hx hb d_LA_giveBack_10 rfl (lv_at hl 0 rfl) ?_
      refine lv_iload_n hx hb d_LA_giveBack_11 rfl (lv_at hl 1 rfl) ?_
      rcases mm_bd_some h with ⟨z7, g8, hf9, h⟩ | ⟨xe, z7, g8, hf9, h⟩
      · refine mm_goR (v := none) (mm_goV (As := [.int x1]) (rest := []) hX (c_LA_requireUp hv_r0 hf9) yw_LA_requireUp wt_337 wt_339 ws_0_4 hP hF (mm_recv (h := 0) (i := r0) hX hP hv_r0 rfl rfl) rfl hl.1 (Nat.le_of_ble_eq_true rfl) (by decide) (by decide) hRc hRs d_LA_giveBack_12) hF (fun H locs hP hF _ => ?_)
        refine lv_aload_n hx hb d_LA_giveBack_15 rfl (lv_at hl 0 rfl) ?_
        refine mm_get (h := 0) (i := r0) 3 hX hP hv_r0 rfl rfl uin_0 (by decide) ⟨rfl, rfl, rfl⟩ wt_159 rfl d_LA_giveBack_16 ?_
        refine lv_iload_n hx hb d_LA_giveBack_19 rfl (lv_at hl 2 rfl) ?_
        obtain ⟨hin10, h⟩ := mm_ix_some h
        refine mm_aald (t := 2) (h := 4) (i := 0) hX hP mm_ls4 rfl rfl rfl hin10 d_LA_giveBack_20 ?_
        refine mm_getN (h := 5) (i := x2.toNatClampNeg) 0 hX hP (mm_l5 (n := L.1) hin10) rfl rfl uin_5 (by decide) ⟨rfl, rfl, rfl⟩ wn_81 rfl d_LA_giveBack_21 ?_
        refine lv_iload_n hx hb d_LA_giveBack_24 rfl (lv_at hl 1 rfl) ?_
        obtain ⟨hin11, h⟩ := mm_ix_some h
        refine mm_aald (t := 3) (h := 6) (i := x2.toNatClampNeg) hX hP (mm_l5 (n := L.1) hin10) rfl rfl rfl hin11 d_LA_giveBack_25 ?_
        refine lv_astore_n hx hb d_LA_giveBack_26 rfl hl (Nat.lt_of_lt_of_le (Nat.lt_succ_self _) (Nat.le_of_ble_eq_true rfl)) rfl (fun ls hl => ?_)
        have hl : lv_has ls 4 [(3, .ref (L.2.1 8 (12 * x2.toNatClampNeg + x1.toNatClampNeg))), (0, .ref (L.2.1 0 r0)), (1, .int x1), (2, .int x2)] := hl
        refine lv_aload_n hx hb d_LA_giveBack_27 rfl (lv_at hl 0 rfl) ?_
        refine lv_iconst (v := 3) hx hb d_LA_giveBack_28 (by decide) ?_
        rcases mm_bd_some h with ⟨z12, g13, hf14, h⟩ | ⟨xe, z12, g13, hf14, h⟩
        · refine mm_goR (v := none) (mm_goS (As := [.ref (L.2.1 8 (12 * x2.toNatClampNeg + x1.toNatClampNeg)), .int 3]) (rest := []) hX (c_LA_requireState (mm_l8 (n := L.1) (mm_l5 (n := L.1) hin10) hin11) hf14) yw_LA_requireState wt_398 wt_399 wt_1 hP hF rfl hl.1 (Nat.le_of_ble_eq_true rfl) (by decide) (by decide) hRc hRs d_LA_giveBack_29) hF (fun H locs hP hF _ => ?_)
          refine lv_aload_n hx hb d_LA_giveBack_32 rfl (lv_at hl 0 rfl) ?_
          refine lv_iconst (v := 0) hx hb d_LA_giveBack_33 (by decide) ?_
          refine mm_putN (h := 8) (i := (12 * x2.toNatClampNeg + x1.toNatClampNeg)) 5 hX hP hF (mm_l8 (n := L.1) (mm_l5 (n := L.1) hin10) hin11) rfl rfl rfl uin_8 ty_8 tyok_8 nmok_8 (by decide) ⟨rfl, rfl, rfl⟩ rfl wn_66 rfl rfl rfl (Nat.le_of_ble_eq_true rfl) d_LA_giveBack_34 (fun H locs hP hF => ?_)
          obtain ⟨g15, e16, h⟩ := mm_let_ex h
          have hP : mm_P L g15 H := by rw [e16]; exact hP
          refine lv_aload_n hx hb d_LA_giveBack_37 rfl (lv_at hl 1 rfl) ?_
          refine mm_get (h := 0) (i := r0) 3 hX hP hv_r0 rfl rfl uin_0 (by decide) ⟨rfl, rfl, rfl⟩ wt_159 rfl d_LA_giveBack_38 ?_
          refine lv_iload_n hx hb d_LA_giveBack_41 rfl (lv_at hl 3 rfl) ?_
          obtain ⟨hin17, h⟩ := mm_ix_some h
          refine mm_aald (t := 2) (h := 4) (i := 0) hX hP mm_ls4 rfl rfl rfl hin17 d_LA_giveBack_42 ?_
          refine lv_iload_n hx hb d_LA_giveBack_43 rfl (lv_at hl 2 rfl) ?_
          rcases mm_bd_some h with ⟨z18, g19, hf20, h⟩ | ⟨xe, z18, g19, hf20, h⟩
          · refine mm_goR (v := none) (mm_goV (As := [.int x1]) (rest := []) hX (c_Co_recordLoan (mm_l5 (n := L.1) hin17) hf20) yw_Co_recordLoan wt_420 wt_421 wt_422 hP hF (mm_recv (h := 5) (i := x2.toNatClampNeg) hX hP (mm_l5 (n := L.1) hin17) rfl rfl) rfl hl.1 (Nat.le_of_ble_eq_true rfl) (by decide) (by decide) hRc hRs d_LA_giveBack_44) hF (fun H locs hP hF _ => ?_)
            refine lv_aload_n hx hb d_LA_giveBack_47 rfl (lv_at hl 0 rfl) ?_
            refine mm_getN (h := 8) (i := (12 * x2.toNatClampNeg + x1.toNatClampNeg)) 3 hX hP (mm_l8 (n := L.1) (mm_l5 (n := L.1) hin10) hin11) rfl rfl uin_8 (by decide) ⟨rfl, rfl, rfl⟩ wn_62 rfl d_LA_giveBack_48 ?_
            refine lv_iconst (v := -1) hx hb d_LA_giveBack_51 (by decide) ?_
            refine lv_icmp_ne (tgt := 76) hx hb d_LA_giveBack_52 rfl (fun hc => ?_) (fun hc => ?_)
            · have h := mm_neg hc h
              refine lv_aload_n hx hb d_LA_giveBack_76 rfl (lv_at hl 1 rfl) ?_
              refine mm_get (h := 0) (i := r0) 3 hX hP hv_r0 rfl rfl uin_0 (by decide) ⟨rfl, rfl, rfl⟩ wt_159 rfl d_LA_giveBack_77 ?_
              refine lv_iload_n hx hb d_LA_giveBack_80 rfl (lv_at hl 3 rfl) ?_
              obtain ⟨hin21, h⟩ := mm_ix_some h
              refine mm_aald (t := 2) (h := 4) (i := 0) hX hP mm_ls4 rfl rfl rfl hin21 d_LA_giveBack_81 ?_
              refine lv_iload_n hx hb d_LA_giveBack_82 rfl (lv_at hl 2 rfl) ?_
              rcases mm_bd_some h with ⟨z22, g23, hf24, h⟩ | ⟨xe, z22, g23, hf24, h⟩
              · refine mm_goR (v := none) (mm_goV (As := [.int x1]) (rest := []) hX (c_Co_sendOn (mm_l5 (n := L.1) hin21) hf24) yw_Co_sendOn wt_424 wt_425 wt_426 hP hF (mm_recv (h := 5) (i := x2.toNatClampNeg) hX hP (mm_l5 (n := L.1) hin21) rfl rfl) rfl hl.1 (Nat.le_of_ble_eq_true rfl) (by decide) (by decide) hRc hRs d_LA_giveBack_83) hF (fun H locs hP hF _ => ?_)
                refine lv_aload_n hx hb d_LA_giveBack_86 rfl (lv_at hl 0 rfl) ?_
                refine mm_getN (h := 8) (i := (12 * x2.toNatClampNeg + x1.toNatClampNeg)) 1 hX hP (mm_l8 (n := L.1) (mm_l5 (n := L.1) hin10) hin11) rfl rfl uin_8 (by decide) ⟨rfl, rfl, rfl⟩ wn_56 rfl d_LA_giveBack_87 ?_
                refine lv_if_le (tgt := 99) hx hb d_LA_giveBack_90 rfl (fun hc => ?_) (fun hc => ?_)
                · have h := mm_pos hc h
                  exact w_LA_giveBack_b99 hX h hP hF (lv_sub (l' := [(3, .ref (L.2.1 8 (12 * x2.toNatClampNeg + x1.toNatClampNeg)))]) hl [0] rfl) (mm_l8 (n := L.1) (mm_l5 (n := L.1) hin10) hin11)
                · have h := mm_neg hc h
                  refine lv_aload_n hx hb d_LA_giveBack_93 rfl (lv_at hl 1 rfl) ?_
                  refine lv_iload_n hx hb d_LA_giveBack_94 rfl (lv_at hl 2 rfl) ?_
                  refine lv_iload_n hx hb d_LA_giveBack_95 rfl (lv_at hl 3 rfl) ?_
                  rcases mm_bd_some h with ⟨z25, g26, hf27, h⟩ | ⟨xe, z25, g26, hf27, h⟩
                  · refine mm_goR (v := none) (mm_goV (As := [.int x1, .int x2]) (rest := []) hX (c_LA_openRequest hv_r0 hf27) yw_LA_openRequest wt_355 wt_357 ws_0_5 hP hF (mm_recv (h := 0) (i := r0) hX hP hv_r0 rfl rfl) rfl hl.1 (Nat.le_of_ble_eq_true rfl) (by decide) (by decide) hRc hRs d_LA_giveBack_96) hF (fun H locs hP hF _ => ?_)
                    exact w_LA_giveBack_b99 hX h hP hF (lv_sub (l' := [(3, .ref (L.2.1 8 (12 * x2.toNatClampNeg + x1.toNatClampNeg)))]) hl [0] rfl) (mm_l8 (n := L.1) (mm_l5 (n := L.1) hin10) hin11)
                  · cases h
                    exact mm_goT (x := xe + 1) (mm_goV (As := [.int x1, .int x2]) (rest := []) hX (c_LA_openRequest hv_r0 hf27) yw_LA_openRequest wt_355 wt_357 ws_0_5 hP hF (mm_recv (h := 0) (i := r0) hX hP hv_r0 rfl rfl) rfl hl.1 (Nat.le_of_ble_eq_true rfl) (by decide) (by decide) hRc hRs d_LA_giveBack_96) hF hex hlk
              · cases h
                exact mm_goT (x := xe + 1) (mm_goV (As := [.int x1]) (rest := []) hX (c_Co_sendOn (mm_l5 (n := L.1) hin21) hf24) yw_Co_sendOn wt_424 wt_425 wt_426 hP hF (mm_recv (h := 5) (i := x2.toNatClampNeg) hX hP (mm_l5 (n := L.1) hin21) rfl rfl) rfl hl.1 (Nat.le_of_ble_eq_true rfl) (by decide) (by decide) hRc hRs d_LA_giveBack_83) hF hex hlk
            · have h := mm_pos hc h
              refine lv_aload_n hx hb d_LA_giveBack_55 rfl (lv_at hl 0 rfl) ?_
              refine lv_aload_n hx hb d_LA_giveBack_56 rfl (lv_at hl 0 rfl) ?_
              refine mm_getN (h := 8) (i := (12 * x2.toNatClampNeg + x1.toNatClampNeg)) 1 hX hP (mm_l8 (n := L.1) (mm_l5 (n := L.1) hin10) hin11) rfl rfl uin_8 (by decide) ⟨rfl, rfl, rfl⟩ wn_56 rfl d_LA_giveBack_57 ?_
              refine lv_if_ne (tgt := 67) hx hb d_LA_giveBack_60 rfl (fun hc => ?_) (fun hc => ?_)
              · have h := mm_neg hc h
                refine lv_iconst (v := 2) hx hb d_LA_giveBack_67 (by decide) ?_
                exact w_LA_giveBack_b68 hX h hP hF (lv_sub (l' := [(3, .ref (L.2.1 8 (12 * x2.toNatClampNeg + x1.toNatClampNeg)))]) hl [0] rfl) (mm_l8 (n := L.1) (mm_l5 (n := L.1) hin10) hin11) (mm_l8 (n := L.1) (mm_l5 (n := L.1) hin10) hin11)
              · have h := mm_pos hc h
                refine lv_iconst (v := 4) hx hb d_LA_giveBack_63 (by decide) ?_
                refine lv_goto (tgt := 68) hx hb d_LA_giveBack_64 rfl ?_
                exact w_LA_giveBack_b68 hX h hP hF (lv_sub (l' := [(3, .ref (L.2.1 8 (12 * x2.toNatClampNeg + x1.toNatClampNeg)))]) hl [0] rfl) (mm_l8 (n := L.1) (mm_l5 (n := L.1) hin10) hin11) (mm_l8 (n := L.1) (mm_l5 (n := L.1) hin10) hin11)
          · cases h
            exact mm_goT (x := xe + 1) (mm_goV (As := [.int x1]) (rest := []) hX (c_Co_recordLoan (mm_l5 (n := L.1) hin17) hf20) yw_Co_recordLoan wt_420 wt_421 wt_422 hP hF (mm_recv (h := 5) (i := x2.toNatClampNeg) hX hP (mm_l5 (n := L.1) hin17) rfl rfl) rfl hl.1 (Nat.le_of_ble_eq_true rfl) (by decide) (by decide) hRc hRs d_LA_giveBack_44) hF hex hlk
        · cases h
          exact mm_goT (x := xe + 1) (mm_goS (As := [.ref (L.2.1 8 (12 * x2.toNatClampNeg + x1.toNatClampNeg)), .int 3]) (rest := []) hX (c_LA_requireState (mm_l8 (n := L.1) (mm_l5 (n := L.1) hin10) hin11) hf14) yw_LA_requireState wt_398 wt_399 wt_1 hP hF rfl hl.1 (Nat.le_of_ble_eq_true rfl) (by decide) (by decide) hRc hRs d_LA_giveBack_29) hF hex hlk
      · cases h
        exact mm_goT (x := xe + 1) (mm_goV (As := [.int x1]) (rest := []) hX (c_LA_requireUp hv_r0 hf9) yw_LA_requireUp wt_337 wt_339 ws_0_4 hP hF (mm_recv (h := 0) (i := r0) hX hP hv_r0 rfl rfl) rfl hl.1 (Nat.le_of_ble_eq_true rfl) (by decide) (by decide) hRc hRs d_LA_giveBack_12) hF hex hlk
    · cases h
      exact mm_goT (x := xe + 1) (mm_goV (As := [.int x2]) (rest := []) hX (c_LA_requireCopy hv_r0 hf6) yw_LA_requireCopy wt_203 wt_205 ws_0_0 hP hF (mm_recv (h := 0) (i := r0) hX hP hv_r0 rfl rfl) rfl hl.1 (Nat.le_of_ble_eq_true rfl) (by decide) (by decide) hRc hRs d_LA_giveBack_7) hF hex hlk
  · cases h
    exact mm_goT (x := xe + 1) (mm_goV (As := [.int x1]) (rest := []) hX (c_LA_requireLibrary hv_r0 hf3) yw_LA_requireLibrary wt_275 wt_277 ws_0_2 hP hF (mm_recv (h := 0) (i := r0) hX hP hv_r0 rfl rfl) rfl hl.1 (Nat.le_of_ble_eq_true rfl) (by decide) (by decide) hRc hRs d_LA_giveBack_2) hF hex hlk
set_option maxRecDepth 100000 in
set_option maxHeartbeats 4000000 in
theorem c_LA_giveBack {l : Launch} {L : mm_L} {g g' : mm_M} {eo : Nat} {v : Int32} {r0 : Nat} {x1 : Int32} {x2 : Int32} (hv_r0 : mm_lv L.1 0 r0) (h : f_LA_giveBack L.1 g r0 x1 x2 = some (eo, v, g')) : mm_C l y_LA_giveBack prog_1_method_5_code 4 (some .int) 7 103 L [.ref (L.2.1 0 r0), .int x1, .int x2] g (mm_oi eo v) g' := by
  intro p e R s m below meth c hX hP
  refine mm_enter (Nat.le_of_ble_eq_true rfl) fun ls hl => ?_
  exact w_LA_giveBack hX h hP (fun q hq => by cases hq) (lv_sub (l' := [(0, .ref (L.2.1 0 r0)), (1, .int x1), (2, .int x2)]) hl [0, 1, 2] rfl) hv_r0
def f_LA_van (n : Nat) (g : mm_M) (r0 : Nat) (x1 : Int32) : Option (Nat × Int32 × mm_M) :=
  mm_bd (f_LA_requireCopy n g x1) 0 (fun z1 g2 => mm_ix x1 3 ((if (g2 5 x1.toNatClampNeg 4) = 0 then some (3, 0, g2) else mm_ix x1 3 (mm_bd (f_Co_arrive n g2 x1.toNatClampNeg) 0 (fun z6 g7 => some (0, z6, g7))))))
set_option maxRecDepth 100000 in
set_option maxHeartbeats 4000000 in
theorem w_LA_van {p : Program} {l : Launch} {e : Env} {R : Room} {s : State} {m : MethodId} {args : Array Value} {below : List Frame} {meth : Method} {c : Code} {L : mm_L} {eo : Nat} {v : Int32} {g' : mm_M} {g : mm_M} {r0 : Nat} {x1 : Int32} {H : Heap} {locs : List Loc} {ls : Array Slot} (hX : mm_X L prog_1_method_6_code 2 "LoanArrows" (some .int) 7 103 p l R s m meth c) (h : f_LA_van L.1 g r0 x1 = some (eo, v, g')) (hP : mm_P L g H) (hF : ∀ q ∈ locs, mm_F L q.base) (hl : lv_has ls 2 [(0, .ref (L.2.1 0 r0)), (1, .int x1)]) (hv_r0 : mm_lv L.1 0 r0) : W p l e R s m args below meth c H locs 0 0 (mm_Q below L s (mm_oi eo v) g') (F0 m 0 ls []) := by
  have hX0 := hX
  obtain ⟨hx, hb, hml, hown, hr, hlk, hex, hRf, hRl, hRc, hRs, hJ, hK, hst, h00⟩ := hX0
  unfold f_LA_van at h
  refine lv_aload_n hx hb d_LA_van_0 rfl (lv_at hl 0 rfl) ?_
  refine lv_iload_n hx hb d_LA_van_1 rfl (lv_at hl 1 rfl) ?_
  rcases mm_bd_some h with ⟨z1, g2, hf3, h⟩ | ⟨xe, z1, g2, hf3, h⟩
  · refine mm_goR (v := none) (mm_goV (As := [.int x1]) (rest := []) hX (c_LA_requireCopy hv_r0 hf3) yw_LA_requireCopy wt_203 wt_205 ws_0_0 hP hF (mm_recv (h := 0) (i := r0) hX hP hv_r0 rfl rfl) rfl hl.1 (Nat.le_of_ble_eq_true rfl) (by decide) (by decide) hRc hRs d_LA_van_2) hF (fun H locs hP hF _ => ?_)
    refine lv_aload_n hx hb d_LA_van_5 rfl (lv_at hl 0 rfl) ?_
    refine mm_get (h := 0) (i := r0) 3 hX hP hv_r0 rfl rfl uin_0 (by decide) ⟨rfl, rfl, rfl⟩ wt_159 rfl d_LA_van_6 ?_
    refine lv_iload_n hx hb d_LA_van_9 rfl (lv_at hl 1 rfl) ?_
    obtain ⟨hin4, h⟩ := mm_ix_some h
    refine mm_aald (t := 2) (h := 4) (i := 0) hX hP mm_ls4 rfl rfl rfl hin4 d_LA_van_10 ?_
    refine mm_getN (h := 5) (i := x1.toNatClampNeg) 4 hX hP (mm_l5 (n := L.1) hin4) rfl rfl uin_5 (by decide) ⟨rfl, rfl, rfl⟩ wn_87 rfl d_LA_van_11 ?_
    refine lv_if_ne (tgt := 27) hx hb d_LA_van_14 rfl (fun hc => ?_) (fun hc => ?_)
    · have h := mm_neg hc h
      refine lv_aload_n hx hb d_LA_van_27 rfl (lv_at hl 0 rfl) ?_
      refine mm_get (h := 0) (i := r0) 3 hX hP hv_r0 rfl rfl uin_0 (by decide) ⟨rfl, rfl, rfl⟩ wt_159 rfl d_LA_van_28 ?_
      refine lv_iload_n hx hb d_LA_van_31 rfl (lv_at hl 1 rfl) ?_
      obtain ⟨hin5, h⟩ := mm_ix_some h
      refine mm_aald (t := 2) (h := 4) (i := 0) hX hP mm_ls4 rfl rfl rfl hin5 d_LA_van_32 ?_
      rcases mm_bd_some h with ⟨z6, g7, hf8, h⟩ | ⟨xe, z6, g7, hf8, h⟩
      · refine mm_goR (v := (some (.int z6))) (mm_goV (As := []) (rest := []) hX (c_Co_arrive (mm_l5 (n := L.1) hin5) hf8) yw_Co_arrive wt_436 wt_437 wt_438 hP hF (mm_recv (h := 5) (i := x1.toNatClampNeg) hX hP (mm_l5 (n := L.1) hin5) rfl rfl) rfl hl.1 (Nat.le_of_ble_eq_true rfl) (by decide) (by decide) hRc hRs d_LA_van_33) hF (fun H locs hP hF _ => ?_)
        cases h
        exact mm_iret hx hb hr hlk hP hF d_LA_van_36
      · cases h
        exact mm_goT (x := xe + 1) (mm_goV (As := []) (rest := []) hX (c_Co_arrive (mm_l5 (n := L.1) hin5) hf8) yw_Co_arrive wt_436 wt_437 wt_438 hP hF (mm_recv (h := 5) (i := x1.toNatClampNeg) hX hP (mm_l5 (n := L.1) hin5) rfl rfl) rfl hl.1 (Nat.le_of_ble_eq_true rfl) (by decide) (by decide) hRc hRs d_LA_van_33) hF hex hlk
    · have h := mm_pos hc h
      cases h
      exact mm_throw (x := 3) (names := mm_nm) hX hP hF wt_284 wt_285 wt_13 (show ("LoanArrows", 134, "the copy is in no van") ∈ mm_str by decide +kernel) at_LA_65 (by decide +kernel) mm_nm_fit hl.1 (by decide) (by decide) d_LA_van_17 d_LA_van_20 d_LA_van_21 d_LA_van_23 d_LA_van_26
  · cases h
    exact mm_goT (x := xe + 1) (mm_goV (As := [.int x1]) (rest := []) hX (c_LA_requireCopy hv_r0 hf3) yw_LA_requireCopy wt_203 wt_205 ws_0_0 hP hF (mm_recv (h := 0) (i := r0) hX hP hv_r0 rfl rfl) rfl hl.1 (Nat.le_of_ble_eq_true rfl) (by decide) (by decide) hRc hRs d_LA_van_2) hF hex hlk
set_option maxRecDepth 100000 in
set_option maxHeartbeats 4000000 in
theorem c_LA_van {l : Launch} {L : mm_L} {g g' : mm_M} {eo : Nat} {v : Int32} {r0 : Nat} {x1 : Int32} (hv_r0 : mm_lv L.1 0 r0) (h : f_LA_van L.1 g r0 x1 = some (eo, v, g')) : mm_C l y_LA_van prog_1_method_6_code 2 (some .int) 7 103 L [.ref (L.2.1 0 r0), .int x1] g (mm_oi eo v) g' := by
  intro p e R s m below meth c hX hP
  refine mm_enter (Nat.le_of_ble_eq_true rfl) fun ls hl => ?_
  exact w_LA_van hX h hP (fun q hq => by cases hq) (lv_sub (l' := [(0, .ref (L.2.1 0 r0)), (1, .int x1)]) hl [0, 1] rfl) hv_r0
def f_LA_sendAll (n : Nat) (g : mm_M) (r0 : Nat) (x1 : Int32) : Option (Nat × Int32 × mm_M) :=
  mm_bd (f_LA_requireLibrary n g r0 x1) 0 (fun z1 g2 => mm_bd (f_LA_requireUp n g2 r0 x1) 0 (fun z4 g5 => mm_bd (f_Ma_repeatFirstLetters n g5 0 x1) 0 (fun z7 g8 => some (0, z7, g8))))
set_option maxRecDepth 100000 in
set_option maxHeartbeats 4000000 in
theorem w_LA_sendAll {p : Program} {l : Launch} {e : Env} {R : Room} {s : State} {m : MethodId} {args : Array Value} {below : List Frame} {meth : Method} {c : Code} {L : mm_L} {eo : Nat} {v : Int32} {g' : mm_M} {g : mm_M} {r0 : Nat} {x1 : Int32} {H : Heap} {locs : List Loc} {ls : Array Slot} (hX : mm_X L prog_1_method_7_code 2 "LoanArrows" (some .int) 7 103 p l R s m meth c) (h : f_LA_sendAll L.1 g r0 x1 = some (eo, v, g')) (hP : mm_P L g H) (hF : ∀ q ∈ locs, mm_F L q.base) (hl : lv_has ls 2 [(0, .ref (L.2.1 0 r0)), (1, .int x1)]) (hv_r0 : mm_lv L.1 0 r0) : W p l e R s m args below meth c H locs 0 0 (mm_Q below L s (mm_oi eo v) g') (F0 m 0 ls []) := by
  have hX0 := hX
  obtain ⟨hx, hb, hml, hown, hr, hlk, hex, hRf, hRl, hRc, hRs, hJ, hK, hst, h00⟩ := hX0
  unfold f_LA_sendAll at h
  refine lv_aload_n hx hb d_LA_sendAll_0 rfl (lv_at hl 0 rfl) ?_
  refine lv_iload_n hx hb d_LA_sendAll_1 rfl (lv_at hl 1 rfl) ?_
  rcases mm_bd_some h with ⟨z1, g2, hf3, h⟩ | ⟨xe, z1, g2, hf3, h⟩
  · refine mm_goR (v := none) (mm_goV (As := [.int x1]) (rest := []) hX (c_LA_requireLibrary hv_r0 hf3) yw_LA_requireLibrary wt_275 wt_277 ws_0_2 hP hF (mm_recv (h := 0) (i := r0) hX hP hv_r0 rfl rfl) rfl hl.1 (Nat.le_of_ble_eq_true rfl) (by decide) (by decide) hRc hRs d_LA_sendAll_2) hF (fun H locs hP hF _ => ?_)
    refine lv_aload_n hx hb d_LA_sendAll_5 rfl (lv_at hl 0 rfl) ?_
    refine lv_iload_n hx hb d_LA_sendAll_6 rfl (lv_at hl 1 rfl) ?_
    rcases mm_bd_some h with ⟨z4, g5, hf6, h⟩ | ⟨xe, z4, g5, hf6, h⟩
    · refine mm_goR (v := none) (mm_goV (As := [.int x1]) (rest := []) hX (c_LA_requireUp hv_r0 hf6) yw_LA_requireUp wt_337 wt_339 ws_0_4 hP hF (mm_recv (h := 0) (i := r0) hX hP hv_r0 rfl rfl) rfl hl.1 (Nat.le_of_ble_eq_true rfl) (by decide) (by decide) hRc hRs d_LA_sendAll_7) hF (fun H locs hP hF _ => ?_)
      refine lv_aload_n hx hb d_LA_sendAll_10 rfl (lv_at hl 0 rfl) ?_
      refine mm_get (h := 0) (i := r0) 5 hX hP hv_r0 rfl rfl uin_0 (by decide) ⟨rfl, rfl, rfl⟩ wt_161 rfl d_LA_sendAll_11 ?_
      refine lv_iload_n hx hb d_LA_sendAll_14 rfl (lv_at hl 1 rfl) ?_
      rcases mm_bd_some h with ⟨z7, g8, hf9, h⟩ | ⟨xe, z7, g8, hf9, h⟩
      · refine mm_goR (v := (some (.int z7))) (mm_goV (As := [.int x1]) (rest := []) hX (c_Ma_repeatFirstLetters mm_ls12 hf9) yw_Ma_repeatFirstLetters wt_447 wt_448 wt_449 hP hF (mm_recv (h := 12) (i := 0) hX hP mm_ls12 rfl rfl) rfl hl.1 (Nat.le_of_ble_eq_true rfl) (by decide) (by decide) hRc hRs d_LA_sendAll_15) hF (fun H locs hP hF _ => ?_)
        cases h
        exact mm_iret hx hb hr hlk hP hF d_LA_sendAll_18
      · cases h
        exact mm_goT (x := xe + 1) (mm_goV (As := [.int x1]) (rest := []) hX (c_Ma_repeatFirstLetters mm_ls12 hf9) yw_Ma_repeatFirstLetters wt_447 wt_448 wt_449 hP hF (mm_recv (h := 12) (i := 0) hX hP mm_ls12 rfl rfl) rfl hl.1 (Nat.le_of_ble_eq_true rfl) (by decide) (by decide) hRc hRs d_LA_sendAll_15) hF hex hlk
    · cases h
      exact mm_goT (x := xe + 1) (mm_goV (As := [.int x1]) (rest := []) hX (c_LA_requireUp hv_r0 hf6) yw_LA_requireUp wt_337 wt_339 ws_0_4 hP hF (mm_recv (h := 0) (i := r0) hX hP hv_r0 rfl rfl) rfl hl.1 (Nat.le_of_ble_eq_true rfl) (by decide) (by decide) hRc hRs d_LA_sendAll_7) hF hex hlk
  · cases h
    exact mm_goT (x := xe + 1) (mm_goV (As := [.int x1]) (rest := []) hX (c_LA_requireLibrary hv_r0 hf3) yw_LA_requireLibrary wt_275 wt_277 ws_0_2 hP hF (mm_recv (h := 0) (i := r0) hX hP hv_r0 rfl rfl) rfl hl.1 (Nat.le_of_ble_eq_true rfl) (by decide) (by decide) hRc hRs d_LA_sendAll_2) hF hex hlk
set_option maxRecDepth 100000 in
set_option maxHeartbeats 4000000 in
theorem c_LA_sendAll {l : Launch} {L : mm_L} {g g' : mm_M} {eo : Nat} {v : Int32} {r0 : Nat} {x1 : Int32} (hv_r0 : mm_lv L.1 0 r0) (h : f_LA_sendAll L.1 g r0 x1 = some (eo, v, g')) : mm_C l y_LA_sendAll prog_1_method_7_code 2 (some .int) 7 103 L [.ref (L.2.1 0 r0), .int x1] g (mm_oi eo v) g' := by
  intro p e R s m below meth c hX hP
  refine mm_enter (Nat.le_of_ble_eq_true rfl) fun ls hl => ?_
  exact w_LA_sendAll hX h hP (fun q hq => by cases hq) (lv_sub (l' := [(0, .ref (L.2.1 0 r0)), (1, .int x1)]) hl [0, 1] rfl) hv_r0
def f_LA_pending (n : Nat) (g : mm_M) (r0 : Nat) : Option (Nat × Int32 × mm_M) :=
  some (0, (g 10 0 1), g)
set_option maxRecDepth 100000 in
set_option maxHeartbeats 4000000 in
theorem w_LA_pending {p : Program} {l : Launch} {e : Env} {R : Room} {s : State} {m : MethodId} {args : Array Value} {below : List Frame} {meth : Method} {c : Code} {L : mm_L} {eo : Nat} {v : Int32} {g' : mm_M} {g : mm_M} {r0 : Nat} {H : Heap} {locs : List Loc} {ls : Array Slot} (hX : mm_X L prog_1_method_8_code 1 "LoanArrows" (some .int) 0 0 p l R s m meth c) (h : f_LA_pending L.1 g r0 = some (eo, v, g')) (hP : mm_P L g H) (hF : ∀ q ∈ locs, mm_F L q.base) (hl : lv_has ls 1 [(0, .ref (L.2.1 0 r0))]) (hv_r0 : mm_lv L.1 0 r0) : W p l e R s m args below meth c H locs 0 0 (mm_Q below L s (mm_oi eo v) g') (F0 m 0 ls []) := by
  have hX0 := hX
  obtain ⟨hx, hb, hml, hown, hr, hlk, hex, hRf, hRl, hRc, hRs, hJ, hK, hst, h00⟩ := hX0
  unfold f_LA_pending at h
  refine lv_aload_n hx hb d_LA_pending_0 rfl (lv_at hl 0 rfl) ?_
  refine mm_get (h := 0) (i := r0) 4 hX hP hv_r0 rfl rfl uin_0 (by decide) ⟨rfl, rfl, rfl⟩ wt_160 rfl d_LA_pending_1 ?_
  refine mm_getN (h := 10) (i := 0) 1 hX hP mm_ls10 rfl rfl uin_10 (by decide) ⟨rfl, rfl, rfl⟩ wn_107 rfl d_LA_pending_4 ?_
  cases h
  exact mm_iret hx hb hr hlk hP hF d_LA_pending_7
set_option maxRecDepth 100000 in
set_option maxHeartbeats 4000000 in
theorem c_LA_pending {l : Launch} {L : mm_L} {g g' : mm_M} {eo : Nat} {v : Int32} {r0 : Nat} (hv_r0 : mm_lv L.1 0 r0) (h : f_LA_pending L.1 g r0 = some (eo, v, g')) : mm_C l y_LA_pending prog_1_method_8_code 1 (some .int) 0 0 L [.ref (L.2.1 0 r0)] g (mm_oi eo v) g' := by
  intro p e R s m below meth c hX hP
  refine mm_enter (Nat.le_of_ble_eq_true rfl) fun ls hl => ?_
  exact w_LA_pending hX h hP (fun q hq => by cases hq) (lv_sub (l' := [(0, .ref (L.2.1 0 r0))]) hl [0] rfl) hv_r0

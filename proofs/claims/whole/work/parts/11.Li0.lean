def f_Li_isEmpty_b16 (n : Nat) (g : mm_M) (t0 : Int32) : Option (Nat × Int32 × mm_M) :=
  mm_nz t0 (some (0, t0, g))
set_option maxRecDepth 100000 in
set_option maxHeartbeats 4000000 in
theorem w_Li_isEmpty_b16 {p : Program} {l : Launch} {e : Env} {R : Room} {s : State} {m : MethodId} {args : Array Value} {below : List Frame} {meth : Method} {c : Code} {L : mm_L} {eo : Nat} {v : Int32} {g' : mm_M} {g : mm_M} {t0 : Int32} {H : Heap} {locs : List Loc} {ls : Array Slot} (hX : mm_X L prog_4_method_2_code 1 "LoanArrows$Line" (some .boolean) 0 0 p l R s m meth c) (h : f_Li_isEmpty_b16 L.1 g t0 = some (eo, v, g')) (hP : mm_P L g H) (hF : ∀ q ∈ locs, mm_F L q.base) (hl : lv_has ls 1 []) : W p l e R s m args below meth c H locs 0 0 (mm_Q below L s (mm_oi eo v) g') (F0 m 16 ls [.int t0]) := by
  have hX0 := hX
  obtain ⟨hx, hb, hml, hown, hr, hlk, hex, hRf, hRl, hRc, hRs, hJ, hK, hst, h00⟩ := hX0
  unfold f_Li_isEmpty_b16 at h
  obtain ⟨hn, h⟩ := mm_nz_some h
  cases h
  exact mm_zret hx hb hr hn hlk hP hF d_Li_isEmpty_16
def f_Li_isEmpty (n : Nat) (g : mm_M) (r0 : Nat) : Option (Nat × Int32 × mm_M) :=
  (if (g 14 r0 2) = (g 14 r0 3) then f_Li_isEmpty_b16 n g 1 else f_Li_isEmpty_b16 n g 0)
set_option maxRecDepth 100000 in
set_option maxHeartbeats 4000000 in
theorem w_Li_isEmpty {p : Program} {l : Launch} {e : Env} {R : Room} {s : State} {m : MethodId} {args : Array Value} {below : List Frame} {meth : Method} {c : Code} {L : mm_L} {eo : Nat} {v : Int32} {g' : mm_M} {g : mm_M} {r0 : Nat} {H : Heap} {locs : List Loc} {ls : Array Slot} (hX : mm_X L prog_4_method_2_code 1 "LoanArrows$Line" (some .boolean) 0 0 p l R s m meth c) (h : f_Li_isEmpty L.1 g r0 = some (eo, v, g')) (hP : mm_P L g H) (hF : ∀ q ∈ locs, mm_F L q.base) (hl : lv_has ls 1 [(0, .ref (L.2.1 14 r0))]) (hv_r0 : mm_lv L.1 14 r0) : W p l e R s m args below meth c H locs 0 0 (mm_Q below L s (mm_oi eo v) g') (F0 m 0 ls []) := by
  have hX0 := hX
  obtain ⟨hx, hb, hml, hown, hr, hlk, hex, hRf, hRl, hRc, hRs, hJ, hK, hst, h00⟩ := hX0
  unfold f_Li_isEmpty at h
  refine lv_aload_n hx hb d_Li_isEmpty_0 rfl (lv_at hl 0 rfl) ?_
  refine mm_get (h := 14) (i := r0) 2 hX hP hv_r0 rfl rfl uin_14 (by decide) ⟨rfl, rfl, rfl⟩ wt_128 rfl d_Li_isEmpty_1 ?_
  refine lv_aload_n hx hb d_Li_isEmpty_4 rfl (lv_at hl 0 rfl) ?_
  refine mm_get (h := 14) (i := r0) 3 hX hP hv_r0 rfl rfl uin_14 (by decide) ⟨rfl, rfl, rfl⟩ wt_130 rfl d_Li_isEmpty_5 ?_
  refine lv_icmp_ne (tgt := 15) hx hb d_Li_isEmpty_8 rfl (fun hc => ?_) (fun hc => ?_)
  · have h := mm_neg hc h
    refine lv_iconst (v := 0) hx hb d_Li_isEmpty_15 (by decide) ?_
    exact w_Li_isEmpty_b16 hX h hP hF (lv_sub (l' := []) hl [] rfl)
  · have h := mm_pos hc h
    refine lv_iconst (v := 1) hx hb d_Li_isEmpty_11 (by decide) ?_
    refine lv_goto (tgt := 16) hx hb d_Li_isEmpty_12 rfl ?_
    exact w_Li_isEmpty_b16 hX h hP hF (lv_sub (l' := []) hl [] rfl)
set_option maxRecDepth 100000 in
set_option maxHeartbeats 4000000 in
theorem c_Li_isEmpty {l : Launch} {L : mm_L} {g g' : mm_M} {eo : Nat} {v : Int32} {r0 : Nat} (hv_r0 : mm_lv L.1 14 r0) (h : f_Li_isEmpty L.1 g r0 = some (eo, v, g')) : mm_C l y_Li_isEmpty prog_4_method_2_code 1 (some .boolean) 0 0 L [.ref (L.2.1 14 r0)] g (mm_oi eo v) g' := by
  intro p e R s m below meth c hX hP
  refine mm_enter (Nat.le_of_ble_eq_true rfl) fun ls hl => ?_
  exact w_Li_isEmpty hX h hP (fun q hq => by cases hq) (lv_sub (l' := [(0, .ref (L.2.1 14 r0))]) hl [0] rfl) hv_r0
def f_Li_append (n : Nat) (g : mm_M) (r0 : Nat) (x1 : Int32) (x2 : Int32) : Option (Nat × Int32 × mm_M) :=
  mm_ix ((g 14 r0 3) - (g 14 r0 3) / 4 * 4) 4 (mm_let (mm_st g 15 r0 ((g 14 r0 3) - (g 14 r0 3) / 4 * 4).toNatClampNeg x1) (fun g1 => mm_ix ((g 14 r0 3) - (g 14 r0 3) / 4 * 4) 4 (mm_let (mm_st g1 16 r0 ((g 14 r0 3) - (g 14 r0 3) / 4 * 4).toNatClampNeg x2) (fun g3 => mm_let (mm_st g3 14 r0 3 ((g3 14 r0 3) + 1)) (fun g5 => some (0, 0, g5))))))
set_option maxRecDepth 100000 in
set_option maxHeartbeats 4000000 in
theorem w_Li_append {p : Program} {l : Launch} {e : Env} {R : Room} {s : State} {m : MethodId} {args : Array Value} {below : List Frame} {meth : Method} {c : Code} {L : mm_L} {eo : Nat} {v : Int32} {g' : mm_M} {g : mm_M} {r0 : Nat} {x1 : Int32} {x2 : Int32} {H : Heap} {locs : List Loc} {ls : Array Slot} (hX : mm_X L prog_4_method_3_code 4 "LoanArrows$Line" none 0 0 p l R s m meth c) (h : f_Li_append L.1 g r0 x1 x2 = some (eo, v, g')) (hP : mm_P L g H) (hF : ∀ q ∈ locs, mm_F L q.base) (hl : lv_has ls 4 [(0, .ref (L.2.1 14 r0)), (1, .int x1), (2, .int x2)]) (hv_r0 : mm_lv L.1 14 r0) : W p l e R s m args below meth c H locs 0 0 (mm_Q below L s (mm_ov eo v) g') (F0 m 0 ls []) := by
  have hX0 := hX
  obtain ⟨hx, hb, hml, hown, hr, hlk, hex, hRf, hRl, hRc, hRs, hJ, hK, hst, h00⟩ := hX0
  unfold f_Li_append at h
  refine lv_aload_n hx hb d_Li_append_0 rfl (lv_at hl 0 rfl) ?_
  refine mm_get (h := 14) (i := r0) 3 hX hP hv_r0 rfl rfl uin_14 (by decide) ⟨rfl, rfl, rfl⟩ wt_130 rfl d_Li_append_1 ?_
  refine lv_iconst (v := 4) hx hb d_Li_append_4 (by decide) ?_
  refine lv_irem hx hb d_Li_append_5 (by decide) ?_
  refine lv_istore_n hx hb d_Li_append_6 rfl hl (Nat.lt_of_lt_of_le (Nat.lt_succ_self _) (Nat.le_of_ble_eq_true rfl)) rfl (fun ls hl => ?_)
  have hl : lv_has ls 4 [(3, .int ((g 14 r0 3) - (g 14 r0 3) / 4 * 4)), (0, .ref (L.2.1 14 r0)), (1, .int x1), (2, .int x2)] := hl
  refine lv_aload_n hx hb d_Li_append_7 rfl (lv_at hl 1 rfl) ?_
  refine mm_get (h := 14) (i := r0) 0 hX hP hv_r0 rfl rfl uin_14 (by decide) ⟨rfl, rfl, rfl⟩ wt_126 rfl d_Li_append_8 ?_
  refine lv_iload_n hx hb d_Li_append_11 rfl (lv_at hl 0 rfl) ?_
  refine lv_iload_n hx hb d_Li_append_12 rfl (lv_at hl 2 rfl) ?_
  obtain ⟨hin, h⟩ := mm_ix_some h
  refine mm_iast (h := 15) (i := r0) hX hP hF hv_r0 (fun _ => rfl) rfl hin d_Li_append_13 (fun H locs hP hF => ?_)
  obtain ⟨g1, e2, h⟩ := mm_let_ex h
  have hP : mm_P L g1 H := by rw [e2]; exact hP
  refine lv_aload_n hx hb d_Li_append_14 rfl (lv_at hl 1 rfl) ?_
  refine mm_get (h := 14) (i := r0) 1 hX hP hv_r0 rfl rfl uin_14 (by decide) ⟨rfl, rfl, rfl⟩ wt_127 rfl d_Li_append_15 ?_
  refine lv_iload_n hx hb d_Li_append_18 rfl (lv_at hl 0 rfl) ?_
  refine lv_iload_n hx hb d_Li_append_19 rfl (lv_at hl 3 rfl) ?_
  obtain ⟨hin, h⟩ := mm_ix_some h
  refine mm_iast (h := 16) (i := r0) hX hP hF hv_r0 (fun _ => rfl) rfl hin d_Li_append_20 (fun H locs hP hF => ?_)
  obtain ⟨g3, e4, h⟩ := mm_let_ex h
  have hP : mm_P L g3 H := by rw [e4]; exact hP
  refine lv_aload_n hx hb d_Li_append_21 rfl (lv_at hl 1 rfl) ?_
  refine lv_dup hx hb d_Li_append_22 rfl ?_
  refine mm_get (h := 14) (i := r0) 3 hX hP hv_r0 rfl rfl uin_14 (by decide) ⟨rfl, rfl, rfl⟩ wt_130 rfl d_Li_append_23 ?_
  refine lv_iconst (v := 1) hx hb d_Li_append_26 (by decide) ?_
  refine lv_iadd hx hb d_Li_append_27 ?_
  refine mm_put (h := 14) (i := r0) 3 hX hP hF hv_r0 rfl rfl rfl uin_14 ty_14 tyok_14 nmok_14 (by decide) ⟨rfl, rfl, rfl⟩ rfl wt_130 rfl rfl rfl (Nat.le_of_ble_eq_true rfl) d_Li_append_28 (fun H locs hP hF => ?_)
  obtain ⟨g5, e6, h⟩ := mm_let_ex h
  have hP : mm_P L g5 H := by rw [e6]; exact hP
  cases h
  exact mm_vret hx hb hr hlk hP hF d_Li_append_31
set_option maxRecDepth 100000 in
set_option maxHeartbeats 4000000 in
theorem c_Li_append {l : Launch} {L : mm_L} {g g' : mm_M} {eo : Nat} {v : Int32} {r0 : Nat} {x1 : Int32} {x2 : Int32} (hv_r0 : mm_lv L.1 14 r0) (h : f_Li_append L.1 g r0 x1 x2 = some (eo, v, g')) : mm_C l y_Li_append prog_4_method_3_code 4 none 0 0 L [.ref (L.2.1 14 r0), .int x1, .int x2] g (mm_ov eo v) g' := by
  intro p e R s m below meth c hX hP
  refine mm_enter (Nat.le_of_ble_eq_true rfl) fun ls hl => ?_
  exact w_Li_append hX h hP (fun q hq => by cases hq) (lv_sub (l' := [(0, .ref (L.2.1 14 r0)), (1, .int x1), (2, .int x2)]) hl [0, 1, 2] rfl) hv_r0
def f_Li_firstCopy (n : Nat) (g : mm_M) (r0 : Nat) : Option (Nat × Int32 × mm_M) :=
  mm_ix ((g 14 r0 2) - (g 14 r0 2) / 4 * 4) 4 (some (0, (g 15 r0 ((g 14 r0 2) - (g 14 r0 2) / 4 * 4).toNatClampNeg), g))
set_option maxRecDepth 100000 in
set_option maxHeartbeats 4000000 in
theorem w_Li_firstCopy {p : Program} {l : Launch} {e : Env} {R : Room} {s : State} {m : MethodId} {args : Array Value} {below : List Frame} {meth : Method} {c : Code} {L : mm_L} {eo : Nat} {v : Int32} {g' : mm_M} {g : mm_M} {r0 : Nat} {H : Heap} {locs : List Loc} {ls : Array Slot} (hX : mm_X L prog_4_method_4_code 1 "LoanArrows$Line" (some .int) 0 0 p l R s m meth c) (h : f_Li_firstCopy L.1 g r0 = some (eo, v, g')) (hP : mm_P L g H) (hF : ∀ q ∈ locs, mm_F L q.base) (hl : lv_has ls 1 [(0, .ref (L.2.1 14 r0))]) (hv_r0 : mm_lv L.1 14 r0) : W p l e R s m args below meth c H locs 0 0 (mm_Q below L s (mm_oi eo v) g') (F0 m 0 ls []) := by
  have hX0 := hX
  obtain ⟨hx, hb, hml, hown, hr, hlk, hex, hRf, hRl, hRc, hRs, hJ, hK, hst, h00⟩ := hX0
  unfold f_Li_firstCopy at h
  refine lv_aload_n hx hb d_Li_firstCopy_0 rfl (lv_at hl 0 rfl) ?_
  refine mm_get (h := 14) (i := r0) 0 hX hP hv_r0 rfl rfl uin_14 (by decide) ⟨rfl, rfl, rfl⟩ wt_126 rfl d_Li_firstCopy_1 ?_
  refine lv_aload_n hx hb d_Li_firstCopy_4 rfl (lv_at hl 0 rfl) ?_
  refine mm_get (h := 14) (i := r0) 2 hX hP hv_r0 rfl rfl uin_14 (by decide) ⟨rfl, rfl, rfl⟩ wt_128 rfl d_Li_firstCopy_5 ?_
  refine lv_iconst (v := 4) hx hb d_Li_firstCopy_8 (by decide) ?_
  refine lv_irem hx hb d_Li_firstCopy_9 (by decide) ?_
  obtain ⟨hin, h⟩ := mm_ix_some h
  refine mm_iald (h := 15) (i := r0) hX hP hv_r0 (fun _ => rfl) rfl hin d_Li_firstCopy_10 ?_
  cases h
  exact mm_iret hx hb hr hlk hP hF d_Li_firstCopy_11
set_option maxRecDepth 100000 in
set_option maxHeartbeats 4000000 in
theorem c_Li_firstCopy {l : Launch} {L : mm_L} {g g' : mm_M} {eo : Nat} {v : Int32} {r0 : Nat} (hv_r0 : mm_lv L.1 14 r0) (h : f_Li_firstCopy L.1 g r0 = some (eo, v, g')) : mm_C l y_Li_firstCopy prog_4_method_4_code 1 (some .int) 0 0 L [.ref (L.2.1 14 r0)] g (mm_oi eo v) g' := by
  intro p e R s m below meth c hX hP
  refine mm_enter (Nat.le_of_ble_eq_true rfl) fun ls hl => ?_
  exact w_Li_firstCopy hX h hP (fun q hq => by cases hq) (lv_sub (l' := [(0, .ref (L.2.1 14 r0))]) hl [0] rfl) hv_r0
def f_Li_firstAsker (n : Nat) (g : mm_M) (r0 : Nat) : Option (Nat × Int32 × mm_M) :=
  mm_ix ((g 14 r0 2) - (g 14 r0 2) / 4 * 4) 4 (some (0, (g 16 r0 ((g 14 r0 2) - (g 14 r0 2) / 4 * 4).toNatClampNeg), g))
set_option maxRecDepth 100000 in
set_option maxHeartbeats 4000000 in
theorem w_Li_firstAsker {p : Program} {l : Launch} {e : Env} {R : Room} {s : State} {m : MethodId} {args : Array Value} {below : List Frame} {meth : Method} {c : Code} {L : mm_L} {eo : Nat} {v : Int32} {g' : mm_M} {g : mm_M} {r0 : Nat} {H : Heap} {locs : List Loc} {ls : Array Slot} (hX : mm_X L prog_4_method_5_code 1 "LoanArrows$Line" (some .int) 0 0 p l R s m meth c) (h : f_Li_firstAsker L.1 g r0 = some (eo, v, g')) (hP : mm_P L g H) (hF : ∀ q ∈ locs, mm_F L q.base) (hl : lv_has ls 1 [(0, .ref (L.2.1 14 r0))]) (hv_r0 : mm_lv L.1 14 r0) : W p l e R s m args below meth c H locs 0 0 (mm_Q below L s (mm_oi eo v) g') (F0 m 0 ls []) := by
  have hX0 := hX
  obtain ⟨hx, hb, hml, hown, hr, hlk, hex, hRf, hRl, hRc, hRs, hJ, hK, hst, h00⟩ := hX0
  unfold f_Li_firstAsker at h
  refine lv_aload_n hx hb d_Li_firstAsker_0 rfl (lv_at hl 0 rfl) ?_
  refine mm_get (h := 14) (i := r0) 1 hX hP hv_r0 rfl rfl uin_14 (by decide) ⟨rfl, rfl, rfl⟩ wt_127 rfl d_Li_firstAsker_1 ?_
  refine lv_aload_n hx hb d_Li_firstAsker_4 rfl (lv_at hl 0 rfl) ?_
  refine mm_get (h := 14) (i := r0) 2 hX hP hv_r0 rfl rfl uin_14 (by decide) ⟨rfl, rfl, rfl⟩ wt_128 rfl d_Li_firstAsker_5 ?_
  refine lv_iconst (v := 4) hx hb d_Li_firstAsker_8 (by decide) ?_
  refine lv_irem hx hb d_Li_firstAsker_9 (by decide) ?_
  obtain ⟨hin, h⟩ := mm_ix_some h
  refine mm_iald (h := 16) (i := r0) hX hP hv_r0 (fun _ => rfl) rfl hin d_Li_firstAsker_10 ?_
  cases h
  exact mm_iret hx hb hr hlk hP hF d_Li_firstAsker_11
set_option maxRecDepth 100000 in
set_option maxHeartbeats 4000000 in
theorem c_Li_firstAsker {l : Launch} {L : mm_L} {g g' : mm_M} {eo : Nat} {v : Int32} {r0 : Nat} (hv_r0 : mm_lv L.1 14 r0) (h : f_Li_firstAsker L.1 g r0 = some (eo, v, g')) : mm_C l y_Li_firstAsker prog_4_method_5_code 1 (some .int) 0 0 L [.ref (L.2.1 14 r0)] g (mm_oi eo v) g' := by
  intro p e R s m below meth c hX hP
  refine mm_enter (Nat.le_of_ble_eq_true rfl) fun ls hl => ?_
  exact w_Li_firstAsker hX h hP (fun q hq => by cases hq) (lv_sub (l' := [(0, .ref (L.2.1 14 r0))]) hl [0] rfl) hv_r0
def f_Li_removeFirst_b15 (n : Nat) (g : mm_M)  : Option (Nat × Int32 × mm_M) :=
  mm_nz 0 (some (0, 0, g))
set_option maxRecDepth 100000 in
set_option maxHeartbeats 4000000 in
theorem w_Li_removeFirst_b15 {p : Program} {l : Launch} {e : Env} {R : Room} {s : State} {m : MethodId} {args : Array Value} {below : List Frame} {meth : Method} {c : Code} {L : mm_L} {eo : Nat} {v : Int32} {g' : mm_M} {g : mm_M} {H : Heap} {locs : List Loc} {ls : Array Slot} (hX : mm_X L prog_4_method_6_code 2 "LoanArrows$Line" (some .boolean) 1 20 p l R s m meth c) (h : f_Li_removeFirst_b15 L.1 g = some (eo, v, g')) (hP : mm_P L g H) (hF : ∀ q ∈ locs, mm_F L q.base) (hl : lv_has ls 2 []) : W p l e R s m args below meth c H locs 0 0 (mm_Q below L s (mm_oi eo v) g') (F0 m 15 ls []) := by
  have hX0 := hX
  obtain ⟨hx, hb, hml, hown, hr, hlk, hex, hRf, hRl, hRc, hRs, hJ, hK, hst, h00⟩ := hX0
  unfold f_Li_removeFirst_b15 at h
  refine lv_iconst (v := 0) hx hb d_Li_removeFirst_15 (by decide) ?_
  obtain ⟨hn, h⟩ := mm_nz_some h
  cases h
  exact mm_zret hx hb hr hn hlk hP hF d_Li_removeFirst_16
def f_Li_removeFirst (n : Nat) (g : mm_M) (r0 : Nat) (x1 : Int32) : Option (Nat × Int32 × mm_M) :=
  mm_bd (f_Li_isEmpty n g r0) 0 (fun z1 g2 => (if z1 = 0 then (if x1 = (g2 14 r0 2) then mm_let (mm_st g2 14 r0 2 ((g2 14 r0 2) + 1)) (fun g4 => mm_nz 1 (some (0, 1, g4))) else f_Li_removeFirst_b15 n g2) else f_Li_removeFirst_b15 n g2))
set_option maxRecDepth 100000 in
set_option maxHeartbeats 4000000 in
theorem w_Li_removeFirst {p : Program} {l : Launch} {e : Env} {R : Room} {s : State} {m : MethodId} {args : Array Value} {below : List Frame} {meth : Method} {c : Code} {L : mm_L} {eo : Nat} {v : Int32} {g' : mm_M} {g : mm_M} {r0 : Nat} {x1 : Int32} {H : Heap} {locs : List Loc} {ls : Array Slot} (hX : mm_X L prog_4_method_6_code 2 "LoanArrows$Line" (some .boolean) 1 20 p l R s m meth c) (h : f_Li_removeFirst L.1 g r0 x1 = some (eo, v, g')) (hP : mm_P L g H) (hF : ∀ q ∈ locs, mm_F L q.base) (hl : lv_has ls 2 [(0, .ref (L.2.1 14 r0)), (1, .int x1)]) (hv_r0 : mm_lv L.1 14 r0) : W p l e R s m args below meth c H locs 0 0 (mm_Q below L s (mm_oi eo v) g') (F0 m 0 ls []) := by
  have hX0 := hX
  obtain ⟨hx, hb, hml, hown, hr, hlk, hex, hRf, hRl, hRc, hRs, hJ, hK, hst, h00⟩ := hX0
  unfold f_Li_removeFirst at h
  refine lv_aload_n hx hb d_Li_removeFirst_0 rfl (lv_at hl 0 rfl) ?_
  rcases mm_bd_some h with ⟨z1, g2, hf3, h⟩ | ⟨xe, z1, g2, hf3, h⟩
  · refine mm_goR (v := (some (.int z1))) (mm_goV (As := []) (rest := []) hX (c_Li_isEmpty hv_r0 hf3) yw_Li_isEmpty wt_512 wt_188 wt_189 hP hF (mm_recv (h := 14) (i := r0) hX hP hv_r0 rfl rfl) rfl hl.1 (Nat.le_of_ble_eq_true rfl) (by decide) (by decide) hRc hRs d_Li_removeFirst_1) hF (fun H locs hP hF _ => ?_)
    refine lv_if_ne (tgt := 15) hx hb d_Li_removeFirst_4 rfl (fun hc => ?_) (fun hc => ?_)
    · have h := mm_neg hc h
      exact w_Li_removeFirst_b15 hX h hP hF (lv_sub (l' := []) hl [] rfl)
    · have h := mm_pos hc h
      refine lv_iload_n hx hb d_Li_removeFirst_7 rfl (lv_at hl 1 rfl) ?_
      refine lv_aload_n hx hb d_Li_removeFirst_8 rfl (lv_at hl 0 rfl) ?_
      refine mm_get (h := 14) (i := r0) 2 hX hP hv_r0 rfl rfl uin_14 (by decide) ⟨rfl, rfl, rfl⟩ wt_128 rfl d_Li_removeFirst_9 ?_
      refine lv_icmp_eq (tgt := 17) hx hb d_Li_removeFirst_12 rfl (fun hc => ?_) (fun hc => ?_)
      · have h := mm_pos hc h
        refine lv_aload_n hx hb d_Li_removeFirst_17 rfl (lv_at hl 0 rfl) ?_
        refine lv_dup hx hb d_Li_removeFirst_18 rfl ?_
        refine mm_get (h := 14) (i := r0) 2 hX hP hv_r0 rfl rfl uin_14 (by decide) ⟨rfl, rfl, rfl⟩ wt_128 rfl d_Li_removeFirst_19 ?_
        refine lv_iconst (v := 1) hx hb d_Li_removeFirst_22 (by decide) ?_
        refine lv_iadd hx hb d_Li_removeFirst_23 ?_
        refine mm_put (h := 14) (i := r0) 2 hX hP hF hv_r0 rfl rfl rfl uin_14 ty_14 tyok_14 nmok_14 (by decide) ⟨rfl, rfl, rfl⟩ rfl wt_128 rfl rfl rfl (Nat.le_of_ble_eq_true rfl) d_Li_removeFirst_24 (fun H locs hP hF => ?_)
        obtain ⟨g4, e5, h⟩ := mm_let_ex h
        have hP : mm_P L g4 H := by rw [e5]; exact hP
        refine lv_iconst (v := 1) hx hb d_Li_removeFirst_27 (by decide) ?_
        obtain ⟨hn, h⟩ := mm_nz_some h
        cases h
        exact mm_zret hx hb hr hn hlk hP hF d_Li_removeFirst_28
      · have h := mm_neg hc h
        exact w_Li_removeFirst_b15 hX h hP hF (lv_sub (l' := []) hl [] rfl)
  · cases h
    exact mm_goT (x := xe + 1) (mm_goV (As := []) (rest := []) hX (c_Li_isEmpty hv_r0 hf3) yw_Li_isEmpty wt_512 wt_188 wt_189 hP hF (mm_recv (h := 14) (i := r0) hX hP hv_r0 rfl rfl) rfl hl.1 (Nat.le_of_ble_eq_true rfl) (by decide) (by decide) hRc hRs d_Li_removeFirst_1) hF hex hlk
set_option maxRecDepth 100000 in
set_option maxHeartbeats 4000000 in
theorem c_Li_removeFirst {l : Launch} {L : mm_L} {g g' : mm_M} {eo : Nat} {v : Int32} {r0 : Nat} {x1 : Int32} (hv_r0 : mm_lv L.1 14 r0) (h : f_Li_removeFirst L.1 g r0 x1 = some (eo, v, g')) : mm_C l y_Li_removeFirst prog_4_method_6_code 2 (some .boolean) 1 20 L [.ref (L.2.1 14 r0), .int x1] g (mm_oi eo v) g' := by
  intro p e R s m below meth c hX hP
  refine mm_enter (Nat.le_of_ble_eq_true rfl) fun ls hl => ?_
  exact w_Li_removeFirst hX h hP (fun q hq => by cases hq) (lv_sub (l' := [(0, .ref (L.2.1 14 r0)), (1, .int x1)]) hl [0, 1] rfl) hv_r0
def f_Li_takesNext (n : Nat) (g : mm_M) (r0 : Nat) (x1 : Int32) : Option (Nat × Int32 × mm_M) :=
  (if x1 = (g 14 r0 4) then mm_let (mm_st g 14 r0 4 ((g 14 r0 4) + 1)) (fun g1 => mm_nz 1 (some (0, 1, g1))) else mm_nz 0 (some (0, 0, g)))
set_option maxRecDepth 100000 in
set_option maxHeartbeats 4000000 in
theorem w_Li_takesNext {p : Program} {l : Launch} {e : Env} {R : Room} {s : State} {m : MethodId} {args : Array Value} {below : List Frame} {meth : Method} {c : Code} {L : mm_L} {eo : Nat} {v : Int32} {g' : mm_M} {g : mm_M} {r0 : Nat} {x1 : Int32} {H : Heap} {locs : List Loc} {ls : Array Slot} (hX : mm_X L prog_4_method_7_code 2 "LoanArrows$Line" (some .boolean) 0 0 p l R s m meth c) (h : f_Li_takesNext L.1 g r0 x1 = some (eo, v, g')) (hP : mm_P L g H) (hF : ∀ q ∈ locs, mm_F L q.base) (hl : lv_has ls 2 [(0, .ref (L.2.1 14 r0)), (1, .int x1)]) (hv_r0 : mm_lv L.1 14 r0) : W p l e R s m args below meth c H locs 0 0 (mm_Q below L s (mm_oi eo v) g') (F0 m 0 ls []) := by
  have hX0 := hX
  obtain ⟨hx, hb, hml, hown, hr, hlk, hex, hRf, hRl, hRc, hRs, hJ, hK, hst, h00⟩ := hX0
  unfold f_Li_takesNext at h
  refine lv_iload_n hx hb d_Li_takesNext_0 rfl (lv_at hl 1 rfl) ?_
  refine lv_aload_n hx hb d_Li_takesNext_1 rfl (lv_at hl 0 rfl) ?_
  refine mm_get (h := 14) (i := r0) 4 hX hP hv_r0 rfl rfl uin_14 (by decide) ⟨rfl, rfl, rfl⟩ wt_131 rfl d_Li_takesNext_2 ?_
  refine lv_icmp_eq (tgt := 10) hx hb d_Li_takesNext_5 rfl (fun hc => ?_) (fun hc => ?_)
  · have h := mm_pos hc h
    refine lv_aload_n hx hb d_Li_takesNext_10 rfl (lv_at hl 0 rfl) ?_
    refine lv_dup hx hb d_Li_takesNext_11 rfl ?_
    refine mm_get (h := 14) (i := r0) 4 hX hP hv_r0 rfl rfl uin_14 (by decide) ⟨rfl, rfl, rfl⟩ wt_131 rfl d_Li_takesNext_12 ?_
    refine lv_iconst (v := 1) hx hb d_Li_takesNext_15 (by decide) ?_
    refine lv_iadd hx hb d_Li_takesNext_16 ?_
    refine mm_put (h := 14) (i := r0) 4 hX hP hF hv_r0 rfl rfl rfl uin_14 ty_14 tyok_14 nmok_14 (by decide) ⟨rfl, rfl, rfl⟩ rfl wt_131 rfl rfl rfl (Nat.le_of_ble_eq_true rfl) d_Li_takesNext_17 (fun H locs hP hF => ?_)
    obtain ⟨g1, e2, h⟩ := mm_let_ex h
    have hP : mm_P L g1 H := by rw [e2]; exact hP
    refine lv_iconst (v := 1) hx hb d_Li_takesNext_20 (by decide) ?_
    obtain ⟨hn, h⟩ := mm_nz_some h
    cases h
    exact mm_zret hx hb hr hn hlk hP hF d_Li_takesNext_21
  · have h := mm_neg hc h
    refine lv_iconst (v := 0) hx hb d_Li_takesNext_8 (by decide) ?_
    obtain ⟨hn, h⟩ := mm_nz_some h
    cases h
    exact mm_zret hx hb hr hn hlk hP hF d_Li_takesNext_9
set_option maxRecDepth 100000 in
set_option maxHeartbeats 4000000 in
theorem c_Li_takesNext {l : Launch} {L : mm_L} {g g' : mm_M} {eo : Nat} {v : Int32} {r0 : Nat} {x1 : Int32} (hv_r0 : mm_lv L.1 14 r0) (h : f_Li_takesNext L.1 g r0 x1 = some (eo, v, g')) : mm_C l y_Li_takesNext prog_4_method_7_code 2 (some .boolean) 0 0 L [.ref (L.2.1 14 r0), .int x1] g (mm_oi eo v) g' := by
  intro p e R s m below meth c hX hP
  refine mm_enter (Nat.le_of_ble_eq_true rfl) fun ls hl => ?_
  exact w_Li_takesNext hX h hP (fun q hq => by cases hq) (lv_sub (l' := [(0, .ref (L.2.1 14 r0)), (1, .int x1)]) hl [0, 1] rfl) hv_r0

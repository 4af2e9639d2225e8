def f_Mo_thrown (n : Nat) (g : mm_M) (r0 : Nat) : Option (Nat × Int32 × mm_M) :=
  some (0, (g 20 r0 0), g)
set_option maxRecDepth 100000 in
set_option maxHeartbeats 4000000 in
theorem w_Mo_thrown {p : Program} {l : Launch} {e : Env} {R : Room} {s : State} {m : MethodId} {args : Array Value} {below : List Frame} {meth : Method} {c : Code} {L : mm_L} {eo : Nat} {v : Int32} {g' : mm_M} {g : mm_M} {r0 : Nat} {H : Heap} {locs : List Loc} {ls : Array Slot} (hX : mm_X L prog_9_method_2_code 1 "LoanArrowsModel" (some .int) 0 0 p l R s m meth c) (h : f_Mo_thrown L.1 g r0 = some (eo, v, g')) (hP : mm_P L g H) (hF : ∀ q ∈ locs, mm_F L q.base) (hl : lv_has ls 1 [(0, .ref (L.2.1 20 r0))]) (hv_r0 : mm_lv L.1 20 r0) : W p l e R s m args below meth c H locs 0 0 (mm_Q below L s (mm_oi eo v) g') (F0 m 0 ls []) := by
  have hX0 := hX
  obtain ⟨hx, hb, hml, hown, hr, hlk, hex, hRf, hRl, hRc, hRs, hJ, hK, hst, h00⟩ := hX0
  unfold f_Mo_thrown at h
  refine lv_aload_n hx hb d_Mo_thrown_0 rfl (lv_at hl 0 rfl) ?_
  refine mm_get (h := 20) (i := r0) 0 hX hP hv_r0 rfl rfl uin_20 (by decide) ⟨rfl, rfl, rfl⟩ wt_612 rfl d_Mo_thrown_1 ?_
  cases h
  exact mm_iret hx hb hr hlk hP hF d_Mo_thrown_4
set_option maxRecDepth 100000 in
set_option maxHeartbeats 4000000 in
theorem c_Mo_thrown {l : Launch} {L : mm_L} {g g' : mm_M} {eo : Nat} {v : Int32} {r0 : Nat} (hv_r0 : mm_lv L.1 20 r0) (h : f_Mo_thrown L.1 g r0 = some (eo, v, g')) : mm_C l y_Mo_thrown prog_9_method_2_code 1 (some .int) 0 0 L [.ref (L.2.1 20 r0)] g (mm_oi eo v) g' := by
  intro p e R s m below meth c hX hP
  refine mm_enter (Nat.le_of_ble_eq_true rfl) fun ls hl => ?_
  exact w_Mo_thrown hX h hP (fun q hq => by cases hq) (lv_sub (l' := [(0, .ref (L.2.1 20 r0))]) hl [0] rfl) hv_r0
def f_Mo_refused_b41 (n : Nat) (g : mm_M) (t0 : Int32) : Option (Nat × Int32 × mm_M) :=
  mm_nz t0 (some (0, t0, g))
set_option maxRecDepth 100000 in
set_option maxHeartbeats 4000000 in
theorem w_Mo_refused_b41 {p : Program} {l : Launch} {e : Env} {R : Room} {s : State} {m : MethodId} {args : Array Value} {below : List Frame} {meth : Method} {c : Code} {L : mm_L} {eo : Nat} {v : Int32} {g' : mm_M} {g : mm_M} {t0 : Int32} {H : Heap} {locs : List Loc} {ls : Array Slot} (hX : mm_X L prog_9_method_3_code 4 "LoanArrowsModel" (some .boolean) 0 0 p l R s m meth c) (h : f_Mo_refused_b41 L.1 g t0 = some (eo, v, g')) (hP : mm_P L g H) (hF : ∀ q ∈ locs, mm_F L q.base) (hl : lv_has ls 4 []) : W p l e R s m args below meth c H locs 0 0 (mm_Q below L s (mm_oi eo v) g') (F0 m 41 ls [.int t0]) := by
  have hX0 := hX
  obtain ⟨hx, hb, hml, hown, hr, hlk, hex, hRf, hRl, hRc, hRs, hJ, hK, hst, h00⟩ := hX0
  unfold f_Mo_refused_b41 at h
  obtain ⟨hn, h⟩ := mm_nz_some h
  cases h
  exact mm_zret hx hb hr hn hlk hP hF d_Mo_refused_41
def f_Mo_refused_b26 (n : Nat) (g : mm_M) (r0 : Nat) (u0 : Nat) (t1 : Int32) : Option (Nat × Int32 × mm_M) :=
  mm_let (mm_st g 20 u0 0 t1) (fun g1 => (if (g1 20 r0 0) ≤ 0 then f_Mo_refused_b41 n g1 0 else f_Mo_refused_b41 n g1 1))
set_option maxRecDepth 100000 in
set_option maxHeartbeats 4000000 in
theorem w_Mo_refused_b26 {p : Program} {l : Launch} {e : Env} {R : Room} {s : State} {m : MethodId} {args : Array Value} {below : List Frame} {meth : Method} {c : Code} {L : mm_L} {eo : Nat} {v : Int32} {g' : mm_M} {g : mm_M} {r0 : Nat} {u0 : Nat} {t1 : Int32} {H : Heap} {locs : List Loc} {ls : Array Slot} (hX : mm_X L prog_9_method_3_code 4 "LoanArrowsModel" (some .boolean) 0 0 p l R s m meth c) (h : f_Mo_refused_b26 L.1 g r0 u0 t1 = some (eo, v, g')) (hP : mm_P L g H) (hF : ∀ q ∈ locs, mm_F L q.base) (hl : lv_has ls 4 [(0, .ref (L.2.1 20 r0))]) (hv_r0 : mm_lv L.1 20 r0) (hv_u0 : mm_lv L.1 20 u0) : W p l e R s m args below meth c H locs 0 0 (mm_Q below L s (mm_oi eo v) g') (F0 m 26 ls [.int t1, .ref (L.2.1 20 u0)]) := by
  have hX0 := hX
  obtain ⟨hx, hb, hml, hown, hr, hlk, hex, hRf, hRl, hRc, hRs, hJ, hK, hst, h00⟩ := hX0
  unfold f_Mo_refused_b26 at h
  refine mm_put (h := 20) (i := u0) 0 hX hP hF hv_u0 rfl rfl rfl uin_20 ty_20 tyok_20 nmok_20 (by decide) ⟨rfl, rfl, rfl⟩ rfl wt_612 rfl rfl rfl (Nat.le_of_ble_eq_true rfl) d_Mo_refused_26 (fun H locs hP hF => ?_)
  obtain ⟨g1, e2, h⟩ := mm_let_ex h
  have hP : mm_P L g1 H := by rw [e2]; exact hP
  refine lv_aload_n hx hb d_Mo_refused_29 rfl (lv_at hl 0 rfl) ?_
  refine mm_get (h := 20) (i := r0) 0 hX hP hv_r0 rfl rfl uin_20 (by decide) ⟨rfl, rfl, rfl⟩ wt_612 rfl d_Mo_refused_30 ?_
  refine lv_if_le (tgt := 40) hx hb d_Mo_refused_33 rfl (fun hc => ?_) (fun hc => ?_)
  · have h := mm_pos hc h
    refine lv_iconst (v := 0) hx hb d_Mo_refused_40 (by decide) ?_
    exact w_Mo_refused_b41 hX h hP hF (lv_sub (l' := []) hl [] rfl)
  · have h := mm_neg hc h
    refine lv_iconst (v := 1) hx hb d_Mo_refused_36 (by decide) ?_
    refine lv_goto (tgt := 41) hx hb d_Mo_refused_37 rfl ?_
    exact w_Mo_refused_b41 hX h hP hF (lv_sub (l' := []) hl [] rfl)
def f_Mo_refused (n : Nat) (g : mm_M) (r0 : Nat) (x1 : Int32) (x2 : Int32) (x3 : Int32) : Option (Nat × Int32 × mm_M) :=
  (if x1 = 0 then (if x2 = 0 then (if x3 = 0 then f_Mo_refused_b26 n g r0 r0 0 else f_Mo_refused_b26 n g r0 r0 3) else f_Mo_refused_b26 n g r0 r0 2) else f_Mo_refused_b26 n g r0 r0 1)
set_option maxRecDepth 100000 in
set_option maxHeartbeats 4000000 in
theorem w_Mo_refused {p : Program} {l : Launch} {e : Env} {R : Room} {s : State} {m : MethodId} {args : Array Value} {below : List Frame} {meth : Method} {c : Code} {L : mm_L} {eo : Nat} {v : Int32} {g' : mm_M} {g : mm_M} {r0 : Nat} {x1 : Int32} {x2 : Int32} {x3 : Int32} {H : Heap} {locs : List Loc} {ls : Array Slot} (hX : mm_X L prog_9_method_3_code 4 "LoanArrowsModel" (some .boolean) 0 0 p l R s m meth c) (h : f_Mo_refused L.1 g r0 x1 x2 x3 = some (eo, v, g')) (hP : mm_P L g H) (hF : ∀ q ∈ locs, mm_F L q.base) (hl : lv_has ls 4 [(0, .ref (L.2.1 20 r0)), (1, .int x1), (2, .int x2), (3, .int x3)]) (hv_r0 : mm_lv L.1 20 r0) : W p l e R s m args below meth c H locs 0 0 (mm_Q below L s (mm_oi eo v) g') (F0 m 0 ls []) := by
  have hX0 := hX
  obtain ⟨hx, hb, hml, hown, hr, hlk, hex, hRf, hRl, hRc, hRs, hJ, hK, hst, h00⟩ := hX0
  unfold f_Mo_refused at h
  refine lv_aload_n hx hb d_Mo_refused_0 rfl (lv_at hl 0 rfl) ?_
  refine lv_iload_n hx hb d_Mo_refused_1 rfl (lv_at hl 1 rfl) ?_
  refine lv_if_eq (tgt := 9) hx hb d_Mo_refused_2 rfl (fun hc => ?_) (fun hc => ?_)
  · have h := mm_pos hc h
    refine lv_iload_n hx hb d_Mo_refused_9 rfl (lv_at hl 2 rfl) ?_
    refine lv_if_eq (tgt := 17) hx hb d_Mo_refused_10 rfl (fun hc => ?_) (fun hc => ?_)
    · have h := mm_pos hc h
      refine lv_iload_n hx hb d_Mo_refused_17 rfl (lv_at hl 3 rfl) ?_
      refine lv_if_eq (tgt := 25) hx hb d_Mo_refused_18 rfl (fun hc => ?_) (fun hc => ?_)
      · have h := mm_pos hc h
        refine lv_iconst (v := 0) hx hb d_Mo_refused_25 (by decide) ?_
        exact w_Mo_refused_b26 hX h hP hF (lv_sub (l' := [(0, .ref (L.2.1 20 r0))]) hl [0] rfl) hv_r0 hv_r0
      · have h := mm_neg hc h
        refine lv_iconst (v := 3) hx hb d_Mo_refused_21 (by decide) ?_
        refine lv_goto (tgt := 26) hx hb d_Mo_refused_22 rfl ?_
        exact w_Mo_refused_b26 hX h hP hF (lv_sub (l' := [(0, .ref (L.2.1 20 r0))]) hl [0] rfl) hv_r0 hv_r0
    · have h := mm_neg hc h
      refine lv_iconst (v := 2) hx hb d_Mo_refused_13 (by decide) ?_
      refine lv_goto (tgt := 26) hx hb d_Mo_refused_14 rfl ?_
      exact w_Mo_refused_b26 hX h hP hF (lv_sub (l' := [(0, .ref (L.2.1 20 r0))]) hl [0] rfl) hv_r0 hv_r0
  · have h := mm_neg hc h
    refine lv_iconst (v := 1) hx hb d_Mo_refused_5 (by decide) ?_
    refine lv_goto (tgt := 26) hx hb d_Mo_refused_6 rfl ?_
    exact w_Mo_refused_b26 hX h hP hF (lv_sub (l' := [(0, .ref (L.2.1 20 r0))]) hl [0] rfl) hv_r0 hv_r0
set_option maxRecDepth 100000 in
set_option maxHeartbeats 4000000 in
theorem c_Mo_refused {l : Launch} {L : mm_L} {g g' : mm_M} {eo : Nat} {v : Int32} {r0 : Nat} {x1 : Int32} {x2 : Int32} {x3 : Int32} (hv_r0 : mm_lv L.1 20 r0) (h : f_Mo_refused L.1 g r0 x1 x2 x3 = some (eo, v, g')) : mm_C l y_Mo_refused prog_9_method_3_code 4 (some .boolean) 0 0 L [.ref (L.2.1 20 r0), .int x1, .int x2, .int x3] g (mm_oi eo v) g' := by
  intro p e R s m below meth c hX hP
  refine mm_enter (Nat.le_of_ble_eq_true rfl) fun ls hl => ?_
  exact w_Mo_refused hX h hP (fun q hq => by cases hq) (lv_sub (l' := [(0, .ref (L.2.1 20 r0)), (1, .int x1), (2, .int x2), (3, .int x3)]) hl [0, 1, 2, 3] rfl) hv_r0
def f_Mo_isLibrary_b17 (n : Nat) (g : mm_M) (t0 : Int32) : Option (Nat × Int32 × mm_M) :=
  mm_nz t0 (some (0, t0, g))
set_option maxRecDepth 100000 in
set_option maxHeartbeats 4000000 in
theorem w_Mo_isLibrary_b17 {p : Program} {l : Launch} {e : Env} {R : Room} {s : State} {m : MethodId} {args : Array Value} {below : List Frame} {meth : Method} {c : Code} {L : mm_L} {eo : Nat} {v : Int32} {g' : mm_M} {g : mm_M} {t0 : Int32} {H : Heap} {locs : List Loc} {ls : Array Slot} (hX : mm_X L prog_9_method_4_code 2 "LoanArrowsModel" (some .boolean) 0 0 p l R s m meth c) (h : f_Mo_isLibrary_b17 L.1 g t0 = some (eo, v, g')) (hP : mm_P L g H) (hF : ∀ q ∈ locs, mm_F L q.base) (hl : lv_has ls 2 []) : W p l e R s m args below meth c H locs 0 0 (mm_Q below L s (mm_oi eo v) g') (F0 m 17 ls [.int t0]) := by
  have hX0 := hX
  obtain ⟨hx, hb, hml, hown, hr, hlk, hex, hRf, hRl, hRc, hRs, hJ, hK, hst, h00⟩ := hX0
  unfold f_Mo_isLibrary_b17 at h
  obtain ⟨hn, h⟩ := mm_nz_some h
  cases h
  exact mm_zret hx hb hr hn hlk hP hF d_Mo_isLibrary_17
def f_Mo_isLibrary_b16 (n : Nat) (g : mm_M)  : Option (Nat × Int32 × mm_M) :=
  f_Mo_isLibrary_b17 n g 0
set_option maxRecDepth 100000 in
set_option maxHeartbeats 4000000 in
theorem w_Mo_isLibrary_b16 {p : Program} {l : Launch} {e : Env} {R : Room} {s : State} {m : MethodId} {args : Array Value} {below : List Frame} {meth : Method} {c : Code} {L : mm_L} {eo : Nat} {v : Int32} {g' : mm_M} {g : mm_M} {H : Heap} {locs : List Loc} {ls : Array Slot} (hX : mm_X L prog_9_method_4_code 2 "LoanArrowsModel" (some .boolean) 0 0 p l R s m meth c) (h : f_Mo_isLibrary_b16 L.1 g = some (eo, v, g')) (hP : mm_P L g H) (hF : ∀ q ∈ locs, mm_F L q.base) (hl : lv_has ls 2 []) : W p l e R s m args below meth c H locs 0 0 (mm_Q below L s (mm_oi eo v) g') (F0 m 16 ls []) := by
  have hX0 := hX
  obtain ⟨hx, hb, hml, hown, hr, hlk, hex, hRf, hRl, hRc, hRs, hJ, hK, hst, h00⟩ := hX0
  unfold f_Mo_isLibrary_b16 at h
  refine lv_iconst (v := 0) hx hb d_Mo_isLibrary_16 (by decide) ?_
  exact w_Mo_isLibrary_b17 hX h hP hF (lv_sub (l' := []) hl [] rfl)
def f_Mo_isLibrary (n : Nat) (g : mm_M) (r0 : Nat) (x1 : Int32) : Option (Nat × Int32 × mm_M) :=
  (if x1 < 0 then f_Mo_isLibrary_b16 n g else (if (g 20 r0 1) ≤ x1 then f_Mo_isLibrary_b16 n g else f_Mo_isLibrary_b17 n g 1))
set_option maxRecDepth 100000 in
set_option maxHeartbeats 4000000 in
theorem w_Mo_isLibrary {p : Program} {l : Launch} {e : Env} {R : Room} {s : State} {m : MethodId} {args : Array Value} {below : List Frame} {meth : Method} {c : Code} {L : mm_L} {eo : Nat} {v : Int32} {g' : mm_M} {g : mm_M} {r0 : Nat} {x1 : Int32} {H : Heap} {locs : List Loc} {ls : Array Slot} (hX : mm_X L prog_9_method_4_code 2 "LoanArrowsModel" (some .boolean) 0 0 p l R s m meth c) (h : f_Mo_isLibrary L.1 g r0 x1 = some (eo, v, g')) (hP : mm_P L g H) (hF : ∀ q ∈ locs, mm_F L q.base) (hl : lv_has ls 2 [(0, .ref (L.2.1 20 r0)), (1, .int x1)]) (hv_r0 : mm_lv L.1 20 r0) : W p l e R s m args below meth c H locs 0 0 (mm_Q below L s (mm_oi eo v) g') (F0 m 0 ls []) := by
  have hX0 := hX
  obtain ⟨hx, hb, hml, hown, hr, hlk, hex, hRf, hRl, hRc, hRs, hJ, hK, hst, h00⟩ := hX0
  unfold f_Mo_isLibrary at h
  refine lv_iload_n hx hb d_Mo_isLibrary_0 rfl (lv_at hl 1 rfl) ?_
  refine lv_if_lt (tgt := 16) hx hb d_Mo_isLibrary_1 rfl (fun hc => ?_) (fun hc => ?_)
  · have h := mm_pos hc h
    exact w_Mo_isLibrary_b16 hX h hP hF (lv_sub (l' := []) hl [] rfl)
  · have h := mm_neg hc h
    refine lv_iload_n hx hb d_Mo_isLibrary_4 rfl (lv_at hl 1 rfl) ?_
    refine lv_aload_n hx hb d_Mo_isLibrary_5 rfl (lv_at hl 0 rfl) ?_
    refine mm_get (h := 20) (i := r0) 1 hX hP hv_r0 rfl rfl uin_20 (by decide) ⟨rfl, rfl, rfl⟩ wt_613 rfl d_Mo_isLibrary_6 ?_
    refine lv_icmp_ge (tgt := 16) hx hb d_Mo_isLibrary_9 rfl (fun hc => ?_) (fun hc => ?_)
    · have h := mm_pos hc h
      exact w_Mo_isLibrary_b16 hX h hP hF (lv_sub (l' := []) hl [] rfl)
    · have h := mm_neg hc h
      refine lv_iconst (v := 1) hx hb d_Mo_isLibrary_12 (by decide) ?_
      refine lv_goto (tgt := 17) hx hb d_Mo_isLibrary_13 rfl ?_
      exact w_Mo_isLibrary_b17 hX h hP hF (lv_sub (l' := []) hl [] rfl)
set_option maxRecDepth 100000 in
set_option maxHeartbeats 4000000 in
theorem c_Mo_isLibrary {l : Launch} {L : mm_L} {g g' : mm_M} {eo : Nat} {v : Int32} {r0 : Nat} {x1 : Int32} (hv_r0 : mm_lv L.1 20 r0) (h : f_Mo_isLibrary L.1 g r0 x1 = some (eo, v, g')) : mm_C l y_Mo_isLibrary prog_9_method_4_code 2 (some .boolean) 0 0 L [.ref (L.2.1 20 r0), .int x1] g (mm_oi eo v) g' := by
  intro p e R s m below meth c hX hP
  refine mm_enter (Nat.le_of_ble_eq_true rfl) fun ls hl => ?_
  exact w_Mo_isLibrary hX h hP (fun q hq => by cases hq) (lv_sub (l' := [(0, .ref (L.2.1 20 r0)), (1, .int x1)]) hl [0, 1] rfl) hv_r0
def f_Mo_isCopy_b14 (n : Nat) (g : mm_M) (t0 : Int32) : Option (Nat × Int32 × mm_M) :=
  mm_nz t0 (some (0, t0, g))
set_option maxRecDepth 100000 in
set_option maxHeartbeats 4000000 in
theorem w_Mo_isCopy_b14 {p : Program} {l : Launch} {e : Env} {R : Room} {s : State} {m : MethodId} {args : Array Value} {below : List Frame} {meth : Method} {c : Code} {L : mm_L} {eo : Nat} {v : Int32} {g' : mm_M} {g : mm_M} {t0 : Int32} {H : Heap} {locs : List Loc} {ls : Array Slot} (hX : mm_X L prog_9_method_5_code 1 "LoanArrowsModel" (some .boolean) 0 0 p l R s m meth c) (h : f_Mo_isCopy_b14 L.1 g t0 = some (eo, v, g')) (hP : mm_P L g H) (hF : ∀ q ∈ locs, mm_F L q.base) (hl : lv_has ls 1 []) : W p l e R s m args below meth c H locs 0 0 (mm_Q below L s (mm_oi eo v) g') (F0 m 14 ls [.int t0]) := by
  have hX0 := hX
  obtain ⟨hx, hb, hml, hown, hr, hlk, hex, hRf, hRl, hRc, hRs, hJ, hK, hst, h00⟩ := hX0
  unfold f_Mo_isCopy_b14 at h
  obtain ⟨hn, h⟩ := mm_nz_some h
  cases h
  exact mm_zret hx hb hr hn hlk hP hF d_Mo_isCopy_14
def f_Mo_isCopy_b13 (n : Nat) (g : mm_M)  : Option (Nat × Int32 × mm_M) :=
  f_Mo_isCopy_b14 n g 0
set_option maxRecDepth 100000 in
set_option maxHeartbeats 4000000 in
theorem w_Mo_isCopy_b13 {p : Program} {l : Launch} {e : Env} {R : Room} {s : State} {m : MethodId} {args : Array Value} {below : List Frame} {meth : Method} {c : Code} {L : mm_L} {eo : Nat} {v : Int32} {g' : mm_M} {g : mm_M} {H : Heap} {locs : List Loc} {ls : Array Slot} (hX : mm_X L prog_9_method_5_code 1 "LoanArrowsModel" (some .boolean) 0 0 p l R s m meth c) (h : f_Mo_isCopy_b13 L.1 g = some (eo, v, g')) (hP : mm_P L g H) (hF : ∀ q ∈ locs, mm_F L q.base) (hl : lv_has ls 1 []) : W p l e R s m args below meth c H locs 0 0 (mm_Q below L s (mm_oi eo v) g') (F0 m 13 ls []) := by
  have hX0 := hX
  obtain ⟨hx, hb, hml, hown, hr, hlk, hex, hRf, hRl, hRc, hRs, hJ, hK, hst, h00⟩ := hX0
  unfold f_Mo_isCopy_b13 at h
  refine lv_iconst (v := 0) hx hb d_Mo_isCopy_13 (by decide) ?_
  exact w_Mo_isCopy_b14 hX h hP hF (lv_sub (l' := []) hl [] rfl)
def f_Mo_isCopy (n : Nat) (g : mm_M) (x0 : Int32) : Option (Nat × Int32 × mm_M) :=
  (if x0 < 0 then f_Mo_isCopy_b13 n g else (if 3 ≤ x0 then f_Mo_isCopy_b13 n g else f_Mo_isCopy_b14 n g 1))
set_option maxRecDepth 100000 in
set_option maxHeartbeats 4000000 in
theorem w_Mo_isCopy {p : Program} {l : Launch} {e : Env} {R : Room} {s : State} {m : MethodId} {args : Array Value} {below : List Frame} {meth : Method} {c : Code} {L : mm_L} {eo : Nat} {v : Int32} {g' : mm_M} {g : mm_M} {x0 : Int32} {H : Heap} {locs : List Loc} {ls : Array Slot} (hX : mm_X L prog_9_method_5_code 1 "LoanArrowsModel" (some .boolean) 0 0 p l R s m meth c) (h : f_Mo_isCopy L.1 g x0 = some (eo, v, g')) (hP : mm_P L g H) (hF : ∀ q ∈ locs, mm_F L q.base) (hl : lv_has ls 1 [(0, .int x0)]) : W p l e R s m args below meth c H locs 0 0 (mm_Q below L s (mm_oi eo v) g') (F0 m 0 ls []) := by
  have hX0 := hX
  obtain ⟨hx, hb, hml, hown, hr, hlk, hex, hRf, hRl, hRc, hRs, hJ, hK, hst, h00⟩ := hX0
  unfold f_Mo_isCopy at h
  refine lv_iload_n hx hb d_Mo_isCopy_0 rfl (lv_at hl 0 rfl) ?_
  refine lv_if_lt (tgt := 13) hx hb d_Mo_isCopy_1 rfl (fun hc => ?_) (fun hc => ?_)
  · have h := mm_pos hc h
    exact w_Mo_isCopy_b13 hX h hP hF (lv_sub (l' := []) hl [] rfl)
  · have h := mm_neg hc h
    refine lv_iload_n hx hb d_Mo_isCopy_4 rfl (lv_at hl 0 rfl) ?_
    refine lv_iconst (v := 3) hx hb d_Mo_isCopy_5 (by decide) ?_
    refine lv_icmp_ge (tgt := 13) hx hb d_Mo_isCopy_6 rfl (fun hc => ?_) (fun hc => ?_)
    · have h := mm_pos hc h
      exact w_Mo_isCopy_b13 hX h hP hF (lv_sub (l' := []) hl [] rfl)
    · have h := mm_neg hc h
      refine lv_iconst (v := 1) hx hb d_Mo_isCopy_9 (by decide) ?_
      refine lv_goto (tgt := 14) hx hb d_Mo_isCopy_10 rfl ?_
      exact w_Mo_isCopy_b14 hX h hP hF (lv_sub (l' := []) hl [] rfl)
set_option maxRecDepth 100000 in
set_option maxHeartbeats 4000000 in
theorem c_Mo_isCopy {l : Launch} {L : mm_L} {g g' : mm_M} {eo : Nat} {v : Int32} {x0 : Int32} (h : f_Mo_isCopy L.1 g x0 = some (eo, v, g')) : mm_C l y_Mo_isCopy prog_9_method_5_code 1 (some .boolean) 0 0 L [.int x0] g (mm_oi eo v) g' := by
  intro p e R s m below meth c hX hP
  refine mm_enter (Nat.le_of_ble_eq_true rfl) fun ls hl => ?_
  exact w_Mo_isCopy hX h hP (fun q hq => by cases hq) (lv_sub (l' := [(0, .int x0)]) hl [0] rfl)
def f_Mo_isPair_b20 (n : Nat) (g : mm_M) (t0 : Int32) : Option (Nat × Int32 × mm_M) :=
  mm_nz t0 (some (0, t0, g))
set_option maxRecDepth 100000 in
set_option maxHeartbeats 4000000 in
theorem w_Mo_isPair_b20 {p : Program} {l : Launch} {e : Env} {R : Room} {s : State} {m : MethodId} {args : Array Value} {below : List Frame} {meth : Method} {c : Code} {L : mm_L} {eo : Nat} {v : Int32} {g' : mm_M} {g : mm_M} {t0 : Int32} {H : Heap} {locs : List Loc} {ls : Array Slot} (hX : mm_X L prog_9_method_6_code 3 "LoanArrowsModel" (some .boolean) 1 21 p l R s m meth c) (h : f_Mo_isPair_b20 L.1 g t0 = some (eo, v, g')) (hP : mm_P L g H) (hF : ∀ q ∈ locs, mm_F L q.base) (hl : lv_has ls 3 []) : W p l e R s m args below meth c H locs 0 0 (mm_Q below L s (mm_oi eo v) g') (F0 m 20 ls [.int t0]) := by
  have hX0 := hX
  obtain ⟨hx, hb, hml, hown, hr, hlk, hex, hRf, hRl, hRc, hRs, hJ, hK, hst, h00⟩ := hX0
  unfold f_Mo_isPair_b20 at h
  obtain ⟨hn, h⟩ := mm_nz_some h
  cases h
  exact mm_zret hx hb hr hn hlk hP hF d_Mo_isPair_20
def f_Mo_isPair_b19 (n : Nat) (g : mm_M)  : Option (Nat × Int32 × mm_M) :=
  f_Mo_isPair_b20 n g 0
set_option maxRecDepth 100000 in
set_option maxHeartbeats 4000000 in
theorem w_Mo_isPair_b19 {p : Program} {l : Launch} {e : Env} {R : Room} {s : State} {m : MethodId} {args : Array Value} {below : List Frame} {meth : Method} {c : Code} {L : mm_L} {eo : Nat} {v : Int32} {g' : mm_M} {g : mm_M} {H : Heap} {locs : List Loc} {ls : Array Slot} (hX : mm_X L prog_9_method_6_code 3 "LoanArrowsModel" (some .boolean) 1 21 p l R s m meth c) (h : f_Mo_isPair_b19 L.1 g = some (eo, v, g')) (hP : mm_P L g H) (hF : ∀ q ∈ locs, mm_F L q.base) (hl : lv_has ls 3 []) : W p l e R s m args below meth c H locs 0 0 (mm_Q below L s (mm_oi eo v) g') (F0 m 19 ls []) := by
  have hX0 := hX
  obtain ⟨hx, hb, hml, hown, hr, hlk, hex, hRf, hRl, hRc, hRs, hJ, hK, hst, h00⟩ := hX0
  unfold f_Mo_isPair_b19 at h
  refine lv_iconst (v := 0) hx hb d_Mo_isPair_19 (by decide) ?_
  exact w_Mo_isPair_b20 hX h hP hF (lv_sub (l' := []) hl [] rfl)
def f_Mo_isPair (n : Nat) (g : mm_M) (r0 : Nat) (x1 : Int32) (x2 : Int32) : Option (Nat × Int32 × mm_M) :=
  mm_bd (f_Mo_isLibrary n g r0 x1) 0 (fun z1 g2 => (if z1 = 0 then f_Mo_isPair_b19 n g2 else mm_bd (f_Mo_isCopy n g2 x2) 0 (fun z4 g5 => (if z4 = 0 then f_Mo_isPair_b19 n g5 else f_Mo_isPair_b20 n g5 1))))
set_option maxRecDepth 100000 in
set_option maxHeartbeats 4000000 in
theorem w_Mo_isPair {p : Program} {l : Launch} {e : Env} {R : Room} {s : State} {m : MethodId} {args : Array Value} {below : List Frame} {meth : Method} {c : Code} {L : mm_L} {eo : Nat} {v : Int32} {g' : mm_M} {g : mm_M} {r0 : Nat} {x1 : Int32} {x2 : Int32} {H : Heap} {locs : List Loc} {ls : Array Slot} (hX : mm_X L prog_9_method_6_code 3 "LoanArrowsModel" (some .boolean) 1 21 p l R s m meth c) (h : f_Mo_isPair L.1 g r0 x1 x2 = some (eo, v, g')) (hP : mm_P L g H) (hF : ∀ q ∈ locs, mm_F L q.base) (hl : lv_has ls 3 [(0, .ref (L.2.1 20 r0)), (1, .int x1), (2, .int x2)]) (hv_r0 : mm_lv L.1 20 r0) : W p l e R s m args below meth c H locs 0 0 (mm_Q below L s (mm_oi eo v) g') (F0 m 0 ls []) := by
  have hX0 := hX
  obtain ⟨hx, hb, hml, hown, hr, hlk, hex, hRf, hRl, hRc, hRs, hJ, hK, hst, h00⟩ := hX0
  unfold f_Mo_isPair at h
  refine lv_aload_n hx hb d_Mo_isPair_0 rfl (lv_at hl 0 rfl) ?_
  refine lv_iload_n hx hb d_Mo_isPair_1 rfl (lv_at hl 1 rfl) ?_
  rcases mm_bd_some h with ⟨z1, g2, hf3, h⟩ | ⟨xe, z1, g2, hf3, h⟩
  · refine mm_goR (v := (some (.int z1))) (mm_goV (As := [.int x1]) (rest := []) hX (c_Mo_isLibrary hv_r0 hf3) yw_Mo_isLibrary wt_706 wt_708 ws_0_12 hP hF (mm_recv (h := 20) (i := r0) hX hP hv_r0 rfl rfl) rfl hl.1 (Nat.le_of_ble_eq_true rfl) (by decide) (by decide) hRc hRs d_Mo_isPair_2) hF (fun H locs hP hF _ => ?_)
    refine lv_if_eq (tgt := 19) hx hb d_Mo_isPair_5 rfl (fun hc => ?_) (fun hc => ?_)
    · have h := mm_pos hc h
      exact w_Mo_isPair_b19 hX h hP hF (lv_sub (l' := []) hl [] rfl)
    · have h := mm_neg hc h
      refine lv_iload_n hx hb d_Mo_isPair_8 rfl (lv_at hl 2 rfl) ?_
      rcases mm_bd_some h with ⟨z4, g5, hf6, h⟩ | ⟨xe, z4, g5, hf6, h⟩
      · refine mm_goR (v := (some (.int z4))) (mm_goS (As := [.int x2]) (rest := []) hX (c_Mo_isCopy hf6) yw_Mo_isCopy wt_710 wt_711 wt_8 hP hF rfl hl.1 (Nat.le_of_ble_eq_true rfl) (by decide) (by decide) hRc hRs d_Mo_isPair_9) hF (fun H locs hP hF _ => ?_)
        refine lv_if_eq (tgt := 19) hx hb d_Mo_isPair_12 rfl (fun hc => ?_) (fun hc => ?_)
        · have h := mm_pos hc h
          exact w_Mo_isPair_b19 hX h hP hF (lv_sub (l' := []) hl [] rfl)
        · have h := mm_neg hc h
          refine lv_iconst (v := 1) hx hb d_Mo_isPair_15 (by decide) ?_
          refine lv_goto (tgt := 20) hx hb d_Mo_isPair_16 rfl ?_
          exact w_Mo_isPair_b20 hX h hP hF (lv_sub (l' := []) hl [] rfl)
      · cases h
        exact mm_goT (x := xe + 1) (mm_goS (As := [.int x2]) (rest := []) hX (c_Mo_isCopy hf6) yw_Mo_isCopy wt_710 wt_711 wt_8 hP hF rfl hl.1 (Nat.le_of_ble_eq_true rfl) (by decide) (by decide) hRc hRs d_Mo_isPair_9) hF hex hlk
  · cases h
    exact mm_goT (x := xe + 1) (mm_goV (As := [.int x1]) (rest := []) hX (c_Mo_isLibrary hv_r0 hf3) yw_Mo_isLibrary wt_706 wt_708 ws_0_12 hP hF (mm_recv (h := 20) (i := r0) hX hP hv_r0 rfl rfl) rfl hl.1 (Nat.le_of_ble_eq_true rfl) (by decide) (by decide) hRc hRs d_Mo_isPair_2) hF hex hlk
set_option maxRecDepth 100000 in
set_option maxHeartbeats 4000000 in
theorem c_Mo_isPair {l : Launch} {L : mm_L} {g g' : mm_M} {eo : Nat} {v : Int32} {r0 : Nat} {x1 : Int32} {x2 : Int32} (hv_r0 : mm_lv L.1 20 r0) (h : f_Mo_isPair L.1 g r0 x1 x2 = some (eo, v, g')) : mm_C l y_Mo_isPair prog_9_method_6_code 3 (some .boolean) 1 21 L [.ref (L.2.1 20 r0), .int x1, .int x2] g (mm_oi eo v) g' := by
  intro p e R s m below meth c hX hP
  refine mm_enter (Nat.le_of_ble_eq_true rfl) fun ls hl => ?_
  exact w_Mo_isPair hX h hP (fun q hq => by cases hq) (lv_sub (l' := [(0, .ref (L.2.1 20 r0)), (1, .int x1), (2, .int x2)]) hl [0, 1, 2] rfl) hv_r0
def f_Mo_at (n : Nat) (g : mm_M) (x0 : Int32) (x1 : Int32) : Option (Nat × Int32 × mm_M) :=
  some (0, ((12 * x1) + x0), g)
set_option maxRecDepth 100000 in
set_option maxHeartbeats 4000000 in
theorem w_Mo_at {p : Program} {l : Launch} {e : Env} {R : Room} {s : State} {m : MethodId} {args : Array Value} {below : List Frame} {meth : Method} {c : Code} {L : mm_L} {eo : Nat} {v : Int32} {g' : mm_M} {g : mm_M} {x0 : Int32} {x1 : Int32} {H : Heap} {locs : List Loc} {ls : Array Slot} (hX : mm_X L prog_9_method_7_code 2 "LoanArrowsModel" (some .int) 0 0 p l R s m meth c) (h : f_Mo_at L.1 g x0 x1 = some (eo, v, g')) (hP : mm_P L g H) (hF : ∀ q ∈ locs, mm_F L q.base) (hl : lv_has ls 2 [(0, .int x0), (1, .int x1)]) : W p l e R s m args below meth c H locs 0 0 (mm_Q below L s (mm_oi eo v) g') (F0 m 0 ls []) := by
  have hX0 := hX
  obtain ⟨hx, hb, hml, hown, hr, hlk, hex, hRf, hRl, hRc, hRs, hJ, hK, hst, h00⟩ := hX0
  unfold f_Mo_at at h
  refine lv_bipush (v := 12) hx hb d_Mo_at_0 (by decide) ?_
  refine lv_iload_n hx hb d_Mo_at_2 rfl (lv_at hl 1 rfl) ?_
  refine lv_imul hx hb d_Mo_at_3 ?_
  refine lv_iload_n hx hb d_Mo_at_4 rfl (lv_at hl 0 rfl) ?_
  refine lv_iadd hx hb d_Mo_at_5 ?_
  cases h
  exact mm_iret hx hb hr hlk hP hF d_Mo_at_6
set_option maxRecDepth 100000 in
set_option maxHeartbeats 4000000 in
theorem c_Mo_at {l : Launch} {L : mm_L} {g g' : mm_M} {eo : Nat} {v : Int32} {x0 : Int32} {x1 : Int32} (h : f_Mo_at L.1 g x0 x1 = some (eo, v, g')) : mm_C l y_Mo_at prog_9_method_7_code 2 (some .int) 0 0 L [.int x0, .int x1] g (mm_oi eo v) g' := by
  intro p e R s m below meth c hX hP
  refine mm_enter (Nat.le_of_ble_eq_true rfl) fun ls hl => ?_
  exact w_Mo_at hX h hP (fun q hq => by cases hq) (lv_sub (l' := [(0, .int x0), (1, .int x1)]) hl [0, 1] rfl)
def f_Mo_isAbove_b31 (n : Nat) (g : mm_M) (t0 : Int32) : Option (Nat × Int32 × mm_M) :=
  mm_nz t0 (some (0, t0, g))
set_option maxRecDepth 100000 in
set_option maxHeartbeats 4000000 in
theorem w_Mo_isAbove_b31 {p : Program} {l : Launch} {e : Env} {R : Room} {s : State} {m : MethodId} {args : Array Value} {below : List Frame} {meth : Method} {c : Code} {L : mm_L} {eo : Nat} {v : Int32} {g' : mm_M} {g : mm_M} {t0 : Int32} {H : Heap} {locs : List Loc} {ls : Array Slot} (hX : mm_X L prog_9_method_8_code 4 "LoanArrowsModel" (some .boolean) 0 0 p l R s m meth c) (h : f_Mo_isAbove_b31 L.1 g t0 = some (eo, v, g')) (hP : mm_P L g H) (hF : ∀ q ∈ locs, mm_F L q.base) (hl : lv_has ls 4 []) : W p l e R s m args below meth c H locs 0 0 (mm_Q below L s (mm_oi eo v) g') (F0 m 31 ls [.int t0]) := by
  have hX0 := hX
  obtain ⟨hx, hb, hml, hown, hr, hlk, hex, hRf, hRl, hRc, hRs, hJ, hK, hst, h00⟩ := hX0
  unfold f_Mo_isAbove_b31 at h
  obtain ⟨hn, h⟩ := mm_nz_some h
  cases h
  exact mm_zret hx hb hr hn hlk hP hF d_Mo_isAbove_31
def f_Mo_isAbove_b21 (n : Nat) (g : mm_M) (x1 : Int32) (x3 : Int32) : Option (Nat × Int32 × mm_M) :=
  (if x3 = x1 then f_Mo_isAbove_b31 n g 1 else f_Mo_isAbove_b31 n g 0)
set_option maxRecDepth 100000 in
set_option maxHeartbeats 4000000 in
theorem w_Mo_isAbove_b21 {p : Program} {l : Launch} {e : Env} {R : Room} {s : State} {m : MethodId} {args : Array Value} {below : List Frame} {meth : Method} {c : Code} {L : mm_L} {eo : Nat} {v : Int32} {g' : mm_M} {g : mm_M} {x1 : Int32} {x3 : Int32} {H : Heap} {locs : List Loc} {ls : Array Slot} (hX : mm_X L prog_9_method_8_code 4 "LoanArrowsModel" (some .boolean) 0 0 p l R s m meth c) (h : f_Mo_isAbove_b21 L.1 g x1 x3 = some (eo, v, g')) (hP : mm_P L g H) (hF : ∀ q ∈ locs, mm_F L q.base) (hl : lv_has ls 4 [(1, .int x1), (3, .int x3)]) : W p l e R s m args below meth c H locs 0 0 (mm_Q below L s (mm_oi eo v) g') (F0 m 21 ls []) := by
  have hX0 := hX
  obtain ⟨hx, hb, hml, hown, hr, hlk, hex, hRf, hRl, hRc, hRs, hJ, hK, hst, h00⟩ := hX0
  unfold f_Mo_isAbove_b21 at h
  refine lv_iload_n hx hb d_Mo_isAbove_21 rfl (lv_at hl 1 rfl) ?_
  refine lv_iload_n hx hb d_Mo_isAbove_22 rfl (lv_at hl 0 rfl) ?_
  refine lv_icmp_ne (tgt := 30) hx hb d_Mo_isAbove_23 rfl (fun hc => ?_) (fun hc => ?_)
  · have h := mm_neg hc h
    refine lv_iconst (v := 0) hx hb d_Mo_isAbove_30 (by decide) ?_
    exact w_Mo_isAbove_b31 hX h hP hF (lv_sub (l' := []) hl [] rfl)
  · have h := mm_pos hc h
    refine lv_iconst (v := 1) hx hb d_Mo_isAbove_26 (by decide) ?_
    refine lv_goto (tgt := 31) hx hb d_Mo_isAbove_27 rfl ?_
    exact w_Mo_isAbove_b31 hX h hP hF (lv_sub (l' := []) hl [] rfl)
def f_Mo_isAbove_l2 (n : Nat) : Nat → mm_M → Nat → Int32 → Int32 → Option (Nat × Int32 × mm_M)
  | 0, _, _, _, _ => none
  | k + 1, g, r0, x1, x3 => (if x3 < 0 then f_Mo_isAbove_b21 n g x1 x3 else (if x3 = x1 then f_Mo_isAbove_b21 n g x1 x3 else mm_ix x3 12 (f_Mo_isAbove_l2 n k g r0 x1 (g 21 0 x3.toNatClampNeg))))
set_option maxRecDepth 100000 in
set_option maxHeartbeats 4000000 in
theorem w_Mo_isAbove_l2 {p : Program} {l : Launch} {e : Env} {R : Room} {s : State} {m : MethodId} {args : Array Value} {below : List Frame} {meth : Method} {c : Code} {L : mm_L} {eo : Nat} {v : Int32} {g' : mm_M} (hX : mm_X L prog_9_method_8_code 4 "LoanArrowsModel" (some .boolean) 0 0 p l R s m meth c) : ∀ (k : Nat) (g : mm_M) (r0 : Nat) (x1 : Int32) (x3 : Int32) (H : Heap) (locs : List Loc) (ls : Array Slot), f_Mo_isAbove_l2 L.1 k g r0 x1 x3 = some (eo, v, g') → mm_P L g H → (∀ q ∈ locs, mm_F L q.base) → lv_has ls 4 [(0, .ref (L.2.1 20 r0)), (1, .int x1), (3, .int x3)] → mm_lv L.1 20 r0 → W p l e R s m args below meth c H locs 0 0 (mm_Q below L s (mm_oi eo v) g') (F0 m 2 ls []) := by
  have hX0 := hX
  obtain ⟨hx, hb, hml, hown, hr, hlk, hex, hRf, hRl, hRc, hRs, hJ, hK, hst, h00⟩ := hX0
  intro k
  induction k with
  | zero =>
    intro g r0 x1 x3 H locs ls h hP hF hl hv_r0
    rw [f_Mo_isAbove_l2] at h
    cases h
  | succ k ih =>
    intro g r0 x1 x3 H locs ls h hP hF hl hv_r0
    rw [f_Mo_isAbove_l2] at h
    refine lv_iload_n hx hb d_Mo_isAbove_2 rfl (lv_at hl 2 rfl) ?_
    refine lv_if_lt (tgt := 21) hx hb d_Mo_isAbove_3 rfl (fun hc => ?_) (fun hc => ?_)
    · have h := mm_pos hc h
      exact w_Mo_isAbove_b21 hX h hP hF (lv_sub (l' := [(1, .int x1), (3, .int x3)]) hl [1, 2] rfl)
    · have h := mm_neg hc h
      refine lv_iload_n hx hb d_Mo_isAbove_6 rfl (lv_at hl 2 rfl) ?_
      refine lv_iload_n hx hb d_Mo_isAbove_7 rfl (lv_at hl 1 rfl) ?_
      refine lv_icmp_eq (tgt := 21) hx hb d_Mo_isAbove_8 rfl (fun hc => ?_) (fun hc => ?_)
      · have h := mm_pos hc h
        exact w_Mo_isAbove_b21 hX h hP hF (lv_sub (l' := [(1, .int x1), (3, .int x3)]) hl [1, 2] rfl)
      · have h := mm_neg hc h
        refine lv_aload_n hx hb d_Mo_isAbove_11 rfl (lv_at hl 0 rfl) ?_
        refine mm_get (h := 20) (i := r0) 2 hX hP hv_r0 rfl rfl uin_20 (by decide) ⟨rfl, rfl, rfl⟩ wt_614 rfl d_Mo_isAbove_12 ?_
        refine lv_iload_n hx hb d_Mo_isAbove_15 rfl (lv_at hl 2 rfl) ?_
        obtain ⟨hin, h⟩ := mm_ix_some h
        refine mm_iald (h := 21) (i := 0) hX hP mm_ls21 (fun _ => rfl) rfl hin d_Mo_isAbove_16 ?_
        refine lv_istore_n hx hb d_Mo_isAbove_17 rfl hl (Nat.lt_of_lt_of_le (Nat.lt_succ_self _) (Nat.le_of_ble_eq_true rfl)) rfl (fun ls hl => ?_)
        have hl : lv_has ls 4 [(3, .int (g 21 0 x3.toNatClampNeg)), (0, .ref (L.2.1 20 r0)), (1, .int x1)] := hl
        refine lv_goto (tgt := 2) hx hb d_Mo_isAbove_18 rfl ?_
        exact ih _ _ _ _ _ _ _ h hP hF (lv_sub (l' := [(0, .ref (L.2.1 20 r0)), (1, .int x1), (3, .int (g 21 0 x3.toNatClampNeg))]) hl [1, 2, 0] rfl) hv_r0
def f_Mo_isAbove (n : Nat) (g : mm_M) (r0 : Nat) (x1 : Int32) (x2 : Int32) : Option (Nat × Int32 × mm_M) :=
  f_Mo_isAbove_l2 n 4096 g r0 x1 x2
set_option maxRecDepth 100000 in
set_option maxHeartbeats 4000000 in
theorem w_Mo_isAbove {p : Program} {l : Launch} {e : Env} {R : Room} {s : State} {m : MethodId} {args : Array Value} {below : List Frame} {meth : Method} {c : Code} {L : mm_L} {eo : Nat} {v : Int32} {g' : mm_M} {g : mm_M} {r0 : Nat} {x1 : Int32} {x2 : Int32} {H : Heap} {locs : List Loc} {ls : Array Slot} (hX : mm_X L prog_9_method_8_code 4 "LoanArrowsModel" (some .boolean) 0 0 p l R s m meth c) (h : f_Mo_isAbove L.1 g r0 x1 x2 = some (eo, v, g')) (hP : mm_P L g H) (hF : ∀ q ∈ locs, mm_F L q.base) (hl : lv_has ls 4 [(0, .ref (L.2.1 20 r0)), (1, .int x1), (2, .int x2)]) (hv_r0 : mm_lv L.1 20 r0) : W p l e R s m args below meth c H locs 0 0 (mm_Q below L s (mm_oi eo v) g') (F0 m 0 ls []) := by
  have hX0 := hX
  obtain ⟨hx, hb, hml, hown, hr, hlk, hex, hRf, hRl, hRc, hRs, hJ, hK, hst, h00⟩ := hX0
  unfold f_Mo_isAbove at h
  refine lv_iload_n hx hb d_Mo_isAbove_0 rfl (lv_at hl 2 rfl) ?_
  refine lv_istore_n hx hb d_Mo_isAbove_1 rfl hl (Nat.lt_of_lt_of_le (Nat.lt_succ_self _) (Nat.le_of_ble_eq_true rfl)) rfl (fun ls hl => ?_)
  have hl : lv_has ls 4 [(3, .int x2), (0, .ref (L.2.1 20 r0)), (1, .int x1), (2, .int x2)] := hl
  exact w_Mo_isAbove_l2 hX _ _ _ _ _ _ _ _ h hP hF (lv_sub (l' := [(0, .ref (L.2.1 20 r0)), (1, .int x1), (3, .int x2)]) hl [1, 2, 0] rfl) hv_r0
set_option maxRecDepth 100000 in
set_option maxHeartbeats 4000000 in
theorem c_Mo_isAbove {l : Launch} {L : mm_L} {g g' : mm_M} {eo : Nat} {v : Int32} {r0 : Nat} {x1 : Int32} {x2 : Int32} (hv_r0 : mm_lv L.1 20 r0) (h : f_Mo_isAbove L.1 g r0 x1 x2 = some (eo, v, g')) : mm_C l y_Mo_isAbove prog_9_method_8_code 4 (some .boolean) 0 0 L [.ref (L.2.1 20 r0), .int x1, .int x2] g (mm_oi eo v) g' := by
  intro p e R s m below meth c hX hP
  refine mm_enter (Nat.le_of_ble_eq_true rfl) fun ls hl => ?_
  exact w_Mo_isAbove hX h hP (fun q hq => by cases hq) (lv_sub (l' := [(0, .ref (L.2.1 20 r0)), (1, .int x1), (2, .int x2)]) hl [0, 1, 2] rfl) hv_r0
def f_Mo_towards_l18 (n : Nat) : Nat → mm_M → Nat → Int32 → Int32 → Option (Nat × Int32 × mm_M)
  | 0, _, _, _, _ => none
  | k + 1, g, r0, x1, x3 => mm_ix x3 12 ((if (g 21 0 x3.toNatClampNeg) = x1 then some (0, x3, g) else mm_ix x3 12 (f_Mo_towards_l18 n k g r0 x1 (g 21 0 x3.toNatClampNeg))))
set_option maxRecDepth 100000 in
set_option maxHeartbeats 4000000 in
theorem w_Mo_towards_l18 {p : Program} {l : Launch} {e : Env} {R : Room} {s : State} {m : MethodId} {args : Array Value} {below : List Frame} {meth : Method} {c : Code} {L : mm_L} {eo : Nat} {v : Int32} {g' : mm_M} (hX : mm_X L prog_9_method_9_code 4 "LoanArrowsModel" (some .int) 1 23 p l R s m meth c) : ∀ (k : Nat) (g : mm_M) (r0 : Nat) (x1 : Int32) (x3 : Int32) (H : Heap) (locs : List Loc) (ls : Array Slot), f_Mo_towards_l18 L.1 k g r0 x1 x3 = some (eo, v, g') → mm_P L g H → (∀ q ∈ locs, mm_F L q.base) → lv_has ls 4 [(0, .ref (L.2.1 20 r0)), (1, .int x1), (3, .int x3)] → mm_lv L.1 20 r0 → W p l e R s m args below meth c H locs 0 0 (mm_Q below L s (mm_oi eo v) g') (F0 m 18 ls []) := by
  have hX0 := hX
  obtain ⟨hx, hb, hml, hown, hr, hlk, hex, hRf, hRl, hRc, hRs, hJ, hK, hst, h00⟩ := hX0
  intro k
  induction k with
  | zero =>
    intro g r0 x1 x3 H locs ls h hP hF hl hv_r0
    rw [f_Mo_towards_l18] at h
    cases h
  | succ k ih =>
    intro g r0 x1 x3 H locs ls h hP hF hl hv_r0
    rw [f_Mo_towards_l18] at h
    refine lv_aload_n hx hb d_Mo_towards_18 rfl (lv_at hl 0 rfl) ?_
    refine mm_get (h := 20) (i := r0) 2 hX hP hv_r0 rfl rfl uin_20 (by decide) ⟨rfl, rfl, rfl⟩ wt_614 rfl d_Mo_towards_19 ?_
    refine lv_iload_n hx hb d_Mo_towards_22 rfl (lv_at hl 2 rfl) ?_
    obtain ⟨hin, h⟩ := mm_ix_some h
    refine mm_iald (h := 21) (i := 0) hX hP mm_ls21 (fun _ => rfl) rfl hin d_Mo_towards_23 ?_
    refine lv_iload_n hx hb d_Mo_towards_24 rfl (lv_at hl 1 rfl) ?_
    refine lv_icmp_eq (tgt := 38) hx hb d_Mo_towards_25 rfl (fun hc => ?_) (fun hc => ?_)
    · have h := mm_pos hc h
      refine lv_iload_n hx hb d_Mo_towards_38 rfl (lv_at hl 2 rfl) ?_
      cases h
      exact mm_iret hx hb hr hlk hP hF d_Mo_towards_39
    · have h := mm_neg hc h
      refine lv_aload_n hx hb d_Mo_towards_28 rfl (lv_at hl 0 rfl) ?_
      refine mm_get (h := 20) (i := r0) 2 hX hP hv_r0 rfl rfl uin_20 (by decide) ⟨rfl, rfl, rfl⟩ wt_614 rfl d_Mo_towards_29 ?_
      refine lv_iload_n hx hb d_Mo_towards_32 rfl (lv_at hl 2 rfl) ?_
      obtain ⟨hin, h⟩ := mm_ix_some h
      refine mm_iald (h := 21) (i := 0) hX hP mm_ls21 (fun _ => rfl) rfl hin d_Mo_towards_33 ?_
      refine lv_istore_n hx hb d_Mo_towards_34 rfl hl (Nat.lt_of_lt_of_le (Nat.lt_succ_self _) (Nat.le_of_ble_eq_true rfl)) rfl (fun ls hl => ?_)
      have hl : lv_has ls 4 [(3, .int (g 21 0 x3.toNatClampNeg)), (0, .ref (L.2.1 20 r0)), (1, .int x1)] := hl
      refine lv_goto (tgt := 18) hx hb d_Mo_towards_35 rfl ?_
      exact ih _ _ _ _ _ _ _ h hP hF (lv_sub (l' := [(0, .ref (L.2.1 20 r0)), (1, .int x1), (3, .int (g 21 0 x3.toNatClampNeg))]) hl [1, 2, 0] rfl) hv_r0
def f_Mo_towards (n : Nat) (g : mm_M) (r0 : Nat) (x1 : Int32) (x2 : Int32) : Option (Nat × Int32 × mm_M) :=
  mm_bd (f_Mo_isAbove n g r0 x1 x2) 0 (fun z1 g2 => (if z1 = 0 then mm_ix x1 12 (some (0, (g2 21 0 x1.toNatClampNeg), g2)) else f_Mo_towards_l18 n 4096 g2 r0 x1 x2))
set_option maxRecDepth 100000 in
set_option maxHeartbeats 4000000 in
theorem w_Mo_towards {p : Program} {l : Launch} {e : Env} {R : Room} {s : State} {m : MethodId} {args : Array Value} {below : List Frame} {meth : Method} {c : Code} {L : mm_L} {eo : Nat} {v : Int32} {g' : mm_M} {g : mm_M} {r0 : Nat} {x1 : Int32} {x2 : Int32} {H : Heap} {locs : List Loc} {ls : Array Slot} (hX : mm_X L prog_9_method_9_code 4 "LoanArrowsModel" (some .int) 1 23 p l R s m meth c) (h : f_Mo_towards L.1 g r0 x1 x2 = some (eo, v, g')) (hP : mm_P L g H) (hF : ∀ q ∈ locs, mm_F L q.base) (hl : lv_has ls 4 [(0, .ref (L.2.1 20 r0)), (1, .int x1), (2, .int x2)]) (hv_r0 : mm_lv L.1 20 r0) : W p l e R s m args below meth c H locs 0 0 (mm_Q below L s (mm_oi eo v) g') (F0 m 0 ls []) := by
  have hX0 := hX
  obtain ⟨hx, hb, hml, hown, hr, hlk, hex, hRf, hRl, hRc, hRs, hJ, hK, hst, h00⟩ := hX0
  unfold f_Mo_towards at h
  refine lv_aload_n hx hb d_Mo_towards_0 rfl (lv_at hl 0 rfl) ?_
  refine lv_iload_n hx hb d_Mo_towards_1 rfl (lv_at hl 1 rfl) ?_
  refine lv_iload_n hx hb d_Mo_towards_2 rfl (lv_at hl 2 rfl) ?_
  rcases mm_bd_some h with ⟨z1, g2, hf3, h⟩ | ⟨xe, z1, g2, hf3, h⟩
  · refine mm_goR (v := (some (.int z1))) (mm_goV (As := [.int x1, .int x2]) (rest := []) hX (c_Mo_isAbove hv_r0 hf3) yw_Mo_isAbove wt_724 wt_726 ws_0_15 hP hF (mm_recv (h := 20) (i := r0) hX hP hv_r0 rfl rfl) rfl hl.1 (Nat.le_of_ble_eq_true rfl) (by decide) (by decide) hRc hRs d_Mo_towards_3) hF (fun H locs hP hF _ => ?_)
    refine lv_if_ne (tgt := 16) hx hb d_Mo_towards_6 rfl (fun hc => ?_) (fun hc => ?_)
    · have h := mm_neg hc h
      refine lv_iload_n hx hb d_Mo_towards_16 rfl (lv_at hl 2 rfl) ?_
      refine lv_istore_n hx hb d_Mo_towards_17 rfl hl (Nat.lt_of_lt_of_le (Nat.lt_succ_self _) (Nat.le_of_ble_eq_true rfl)) rfl (fun ls hl => ?_)
      have hl : lv_has ls 4 [(3, .int x2), (0, .ref (L.2.1 20 r0)), (1, .int x1), (2, .int x2)] := hl
      exact w_Mo_towards_l18 hX _ _ _ _ _ _ _ _ h hP hF (lv_sub (l' := [(0, .ref (L.2.1 20 r0)), (1, .int x1), (3, .int x2)]) hl [1, 2, 0] rfl) hv_r0
    · have h := mm_pos hc h
      refine lv_aload_n hx hb d_Mo_towards_9 rfl (lv_at hl 0 rfl) ?_
      refine mm_get (h := 20) (i := r0) 2 hX hP hv_r0 rfl rfl uin_20 (by decide) ⟨rfl, rfl, rfl⟩ wt_614 rfl d_Mo_towards_10 ?_
      refine lv_iload_n hx hb d_Mo_towards_13 rfl (lv_at hl 1 rfl) ?_
      obtain ⟨hin, h⟩ := mm_ix_some h
      refine mm_iald (h := 21) (i := 0) hX hP mm_ls21 (fun _ => rfl) rfl hin d_Mo_towards_14 ?_
      cases h
      exact mm_iret hx hb hr hlk hP hF d_Mo_towards_15
  · cases h
    exact mm_goT (x := xe + 1) (mm_goV (As := [.int x1, .int x2]) (rest := []) hX (c_Mo_isAbove hv_r0 hf3) yw_Mo_isAbove wt_724 wt_726 ws_0_15 hP hF (mm_recv (h := 20) (i := r0) hX hP hv_r0 rfl rfl) rfl hl.1 (Nat.le_of_ble_eq_true rfl) (by decide) (by decide) hRc hRs d_Mo_towards_3) hF hex hlk
set_option maxRecDepth 100000 in
set_option maxHeartbeats 4000000 in
theorem c_Mo_towards {l : Launch} {L : mm_L} {g g' : mm_M} {eo : Nat} {v : Int32} {r0 : Nat} {x1 : Int32} {x2 : Int32} (hv_r0 : mm_lv L.1 20 r0) (h : f_Mo_towards L.1 g r0 x1 x2 = some (eo, v, g')) : mm_C l y_Mo_towards prog_9_method_9_code 4 (some .int) 1 23 L [.ref (L.2.1 20 r0), .int x1, .int x2] g (mm_oi eo v) g' := by
  intro p e R s m below meth c hX hP
  refine mm_enter (Nat.le_of_ble_eq_true rfl) fun ls hl => ?_
  exact w_Mo_towards hX h hP (fun q hq => by cases hq) (lv_sub (l' := [(0, .ref (L.2.1 20 r0)), (1, .int x1), (2, .int x2)]) hl [0, 1, 2] rfl) hv_r0
def f_Mo_direction_b21 (n : Nat) (g : mm_M) (t0 : Int32) : Option (Nat × Int32 × mm_M) :=
  some (0, t0, g)
set_option maxRecDepth 100000 in
set_option maxHeartbeats 4000000 in
theorem w_Mo_direction_b21 {p : Program} {l : Launch} {e : Env} {R : Room} {s : State} {m : MethodId} {args : Array Value} {below : List Frame} {meth : Method} {c : Code} {L : mm_L} {eo : Nat} {v : Int32} {g' : mm_M} {g : mm_M} {t0 : Int32} {H : Heap} {locs : List Loc} {ls : Array Slot} (hX : mm_X L prog_9_method_10_code 3 "LoanArrowsModel" (some .int) 0 0 p l R s m meth c) (h : f_Mo_direction_b21 L.1 g t0 = some (eo, v, g')) (hP : mm_P L g H) (hF : ∀ q ∈ locs, mm_F L q.base) (hl : lv_has ls 3 []) : W p l e R s m args below meth c H locs 0 0 (mm_Q below L s (mm_oi eo v) g') (F0 m 21 ls [.int t0]) := by
  have hX0 := hX
  obtain ⟨hx, hb, hml, hown, hr, hlk, hex, hRf, hRl, hRc, hRs, hJ, hK, hst, h00⟩ := hX0
  unfold f_Mo_direction_b21 at h
  cases h
  exact mm_iret hx hb hr hlk hP hF d_Mo_direction_21
def f_Mo_direction (n : Nat) (g : mm_M) (r0 : Nat) (x1 : Int32) (x2 : Int32) : Option (Nat × Int32 × mm_M) :=
  mm_ix x1 12 ((if (g 21 0 x1.toNatClampNeg) = x2 then f_Mo_direction_b21 n g (2 * x1) else f_Mo_direction_b21 n g ((2 * x2) + 1)))
set_option maxRecDepth 100000 in
set_option maxHeartbeats 4000000 in
theorem w_Mo_direction {p : Program} {l : Launch} {e : Env} {R : Room} {s : State} {m : MethodId} {args : Array Value} {below : List Frame} {meth : Method} {c : Code} {L : mm_L} {eo : Nat} {v : Int32} {g' : mm_M} {g : mm_M} {r0 : Nat} {x1 : Int32} {x2 : Int32} {H : Heap} {locs : List Loc} {ls : Array Slot} (hX : mm_X L prog_9_method_10_code 3 "LoanArrowsModel" (some .int) 0 0 p l R s m meth c) (h : f_Mo_direction L.1 g r0 x1 x2 = some (eo, v, g')) (hP : mm_P L g H) (hF : ∀ q ∈ locs, mm_F L q.base) (hl : lv_has ls 3 [(0, .ref (L.2.1 20 r0)), (1, .int x1), (2, .int x2)]) (hv_r0 : mm_lv L.1 20 r0) : W p l e R s m args below meth c H locs 0 0 (mm_Q below L s (mm_oi eo v) g') (F0 m 0 ls []) := by
  have hX0 := hX
  obtain ⟨hx, hb, hml, hown, hr, hlk, hex, hRf, hRl, hRc, hRs, hJ, hK, hst, h00⟩ := hX0
  unfold f_Mo_direction at h
  refine lv_aload_n hx hb d_Mo_direction_0 rfl (lv_at hl 0 rfl) ?_
  refine mm_get (h := 20) (i := r0) 2 hX hP hv_r0 rfl rfl uin_20 (by decide) ⟨rfl, rfl, rfl⟩ wt_614 rfl d_Mo_direction_1 ?_
  refine lv_iload_n hx hb d_Mo_direction_4 rfl (lv_at hl 1 rfl) ?_
  obtain ⟨hin, h⟩ := mm_ix_some h
  refine mm_iald (h := 21) (i := 0) hX hP mm_ls21 (fun _ => rfl) rfl hin d_Mo_direction_5 ?_
  refine lv_iload_n hx hb d_Mo_direction_6 rfl (lv_at hl 2 rfl) ?_
  refine lv_icmp_ne (tgt := 16) hx hb d_Mo_direction_7 rfl (fun hc => ?_) (fun hc => ?_)
  · have h := mm_neg hc h
    refine lv_iconst (v := 2) hx hb d_Mo_direction_16 (by decide) ?_
    refine lv_iload_n hx hb d_Mo_direction_17 rfl (lv_at hl 2 rfl) ?_
    refine lv_imul hx hb d_Mo_direction_18 ?_
    refine lv_iconst (v := 1) hx hb d_Mo_direction_19 (by decide) ?_
    refine lv_iadd hx hb d_Mo_direction_20 ?_
    exact w_Mo_direction_b21 hX h hP hF (lv_sub (l' := []) hl [] rfl)
  · have h := mm_pos hc h
    refine lv_iconst (v := 2) hx hb d_Mo_direction_10 (by decide) ?_
    refine lv_iload_n hx hb d_Mo_direction_11 rfl (lv_at hl 1 rfl) ?_
    refine lv_imul hx hb d_Mo_direction_12 ?_
    refine lv_goto (tgt := 21) hx hb d_Mo_direction_13 rfl ?_
    exact w_Mo_direction_b21 hX h hP hF (lv_sub (l' := []) hl [] rfl)
set_option maxRecDepth 100000 in
set_option maxHeartbeats 4000000 in
theorem c_Mo_direction {l : Launch} {L : mm_L} {g g' : mm_M} {eo : Nat} {v : Int32} {r0 : Nat} {x1 : Int32} {x2 : Int32} (hv_r0 : mm_lv L.1 20 r0) (h : f_Mo_direction L.1 g r0 x1 x2 = some (eo, v, g')) : mm_C l y_Mo_direction prog_9_method_10_code 3 (some .int) 0 0 L [.ref (L.2.1 20 r0), .int x1, .int x2] g (mm_oi eo v) g' := by
  intro p e R s m below meth c hX hP
  refine mm_enter (Nat.le_of_ble_eq_true rfl) fun ls hl => ?_
  exact w_Mo_direction hX h hP (fun q hq => by cases hq) (lv_sub (l' := [(0, .ref (L.2.1 20 r0)), (1, .int x1), (2, .int x2)]) hl [0, 1, 2] rfl) hv_r0
def f_Mo_post (n : Nat) (g : mm_M) (r0 : Nat) (x1 : Int32) (x2 : Int32) (x3 : Int32) (x4 : Int32) (x5 : Int32) (x6 : Int32) : Option (Nat × Int32 × mm_M) :=
  (if (g 20 r0 20) = 40 then mm_nz 0 (some (0, 0, g)) else mm_ix (g 20 r0 20) 40 (mm_let (mm_st g 39 0 (g 20 r0 20).toNatClampNeg x1) (fun g1 => mm_ix (g1 20 r0 20) 40 (mm_let (mm_st g1 40 0 (g1 20 r0 20).toNatClampNeg x2) (fun g3 => mm_ix (g3 20 r0 20) 40 (mm_let (mm_st g3 41 0 (g3 20 r0 20).toNatClampNeg x3) (fun g5 => mm_ix (g5 20 r0 20) 40 (mm_let (mm_st g5 42 0 (g5 20 r0 20).toNatClampNeg x4) (fun g7 => mm_ix (g7 20 r0 20) 40 (mm_let (mm_st g7 43 0 (g7 20 r0 20).toNatClampNeg x5) (fun g9 => mm_ix (g9 20 r0 20) 40 (mm_let (mm_st g9 44 0 (g9 20 r0 20).toNatClampNeg x6) (fun g11 => mm_let (mm_st g11 20 r0 20 ((g11 20 r0 20) + 1)) (fun g13 => mm_nz 1 (some (0, 1, g13))))))))))))))))
set_option maxRecDepth 100000 in
set_option maxHeartbeats 4000000 in
theorem w_Mo_post {p : Program} {l : Launch} {e : Env} {R : Room} {s : State} {m : MethodId} {args : Array Value} {below : List Frame} {meth : Method} {c : Code} {L : mm_L} {eo : Nat} {v : Int32} {g' : mm_M} {g : mm_M} {r0 : Nat} {x1 : Int32} {x2 : Int32} {x3 : Int32} {x4 : Int32} {x5 : Int32} {x6 : Int32} {H : Heap} {locs : List Loc} {ls : Array Slot} (hX : mm_X L prog_9_method_11_code 7 "LoanArrowsModel" (some .boolean) 0 0 p l R s m meth c) (h : f_Mo_post L.1 g r0 x1 x2 x3 x4 x5 x6 = some (eo, v, g')) (hP : mm_P L g H) (hF : ∀ q ∈ locs, mm_F L q.base) (hl : lv_has ls 7 [(0, .ref (L.2.1 20 r0)), (1, .int x1), (2, .int x2), (3, .int x3), (4, .int x4), (5, .int x5), (6, .int x6)]) (hv_r0 : mm_lv L.1 20 r0) : W p l e R s m args below meth c H locs 0 0 (mm_Q below L s (mm_oi eo v) g') (F0 m 0 ls []) := by
  have hX0 := hX
  obtain ⟨hx, hb, hml, hown, hr, hlk, hex, hRf, hRl, hRc, hRs, hJ, hK, hst, h00⟩ := hX0
  unfold f_Mo_post at h
  refine lv_aload_n hx hb d_Mo_post_0 rfl (lv_at hl 0 rfl) ?_
  refine mm_get (h := 20) (i := r0) 20 hX hP hv_r0 rfl rfl uin_20 (by decide) ⟨rfl, rfl, rfl⟩ wt_632 rfl d_Mo_post_1 ?_
  refine lv_bipush (v := 40) hx hb d_Mo_post_4 (by decide) ?_
  refine lv_icmp_ne (tgt := 11) hx hb d_Mo_post_6 rfl (fun hc => ?_) (fun hc => ?_)
  · have h := mm_neg hc h
    refine lv_aload_n hx hb d_Mo_post_11 rfl (lv_at hl 0 rfl) ?_
    refine mm_get (h := 20) (i := r0) 21 hX hP hv_r0 rfl rfl uin_20 (by decide) ⟨rfl, rfl, rfl⟩ wt_633 rfl d_Mo_post_12 ?_
    refine lv_aload_n hx hb d_Mo_post_15 rfl (lv_at hl 0 rfl) ?_
    refine mm_get (h := 20) (i := r0) 20 hX hP hv_r0 rfl rfl uin_20 (by decide) ⟨rfl, rfl, rfl⟩ wt_632 rfl d_Mo_post_16 ?_
    refine lv_iload_n hx hb d_Mo_post_19 rfl (lv_at hl 1 rfl) ?_
    obtain ⟨hin, h⟩ := mm_ix_some h
    refine mm_iast (h := 39) (i := 0) hX hP hF mm_ls39 (fun _ => rfl) rfl hin d_Mo_post_20 (fun H locs hP hF => ?_)
    obtain ⟨g1, e2, h⟩ := mm_let_ex h
    have hP : mm_P L g1 H := by rw [e2]; exact hP
    refine lv_aload_n hx hb d_Mo_post_21 rfl (lv_at hl 0 rfl) ?_
    refine mm_get (h := 20) (i := r0) 22 hX hP hv_r0 rfl rfl uin_20 (by decide) ⟨rfl, rfl, rfl⟩ wt_634 rfl d_Mo_post_22 ?_
    refine lv_aload_n hx hb d_Mo_post_25 rfl (lv_at hl 0 rfl) ?_
    refine mm_get (h := 20) (i := r0) 20 hX hP hv_r0 rfl rfl uin_20 (by decide) ⟨rfl, rfl, rfl⟩ wt_632 rfl d_Mo_post_26 ?_
    refine lv_iload_n hx hb d_Mo_post_29 rfl (lv_at hl 2 rfl) ?_
    obtain ⟨hin, h⟩ := mm_ix_some h
    refine mm_iast (h := 40) (i := 0) hX hP hF mm_ls40 (fun _ => rfl) rfl hin d_Mo_post_30 (fun H locs hP hF => ?_)
    obtain ⟨g3, e4, h⟩ := mm_let_ex h
    have hP : mm_P L g3 H := by rw [e4]; exact hP
    refine lv_aload_n hx hb d_Mo_post_31 rfl (lv_at hl 0 rfl) ?_
    refine mm_get (h := 20) (i := r0) 23 hX hP hv_r0 rfl rfl uin_20 (by decide) ⟨rfl, rfl, rfl⟩ wt_635 rfl d_Mo_post_32 ?_
    refine lv_aload_n hx hb d_Mo_post_35 rfl (lv_at hl 0 rfl) ?_
    refine mm_get (h := 20) (i := r0) 20 hX hP hv_r0 rfl rfl uin_20 (by decide) ⟨rfl, rfl, rfl⟩ wt_632 rfl d_Mo_post_36 ?_
    refine lv_iload_n hx hb d_Mo_post_39 rfl (lv_at hl 3 rfl) ?_
    obtain ⟨hin, h⟩ := mm_ix_some h
    refine mm_iast (h := 41) (i := 0) hX hP hF mm_ls41 (fun _ => rfl) rfl hin d_Mo_post_40 (fun H locs hP hF => ?_)
    obtain ⟨g5, e6, h⟩ := mm_let_ex h
    have hP : mm_P L g5 H := by rw [e6]; exact hP
    refine lv_aload_n hx hb d_Mo_post_41 rfl (lv_at hl 0 rfl) ?_
    refine mm_get (h := 20) (i := r0) 24 hX hP hv_r0 rfl rfl uin_20 (by decide) ⟨rfl, rfl, rfl⟩ wt_636 rfl d_Mo_post_42 ?_
    refine lv_aload_n hx hb d_Mo_post_45 rfl (lv_at hl 0 rfl) ?_
    refine mm_get (h := 20) (i := r0) 20 hX hP hv_r0 rfl rfl uin_20 (by decide) ⟨rfl, rfl, rfl⟩ wt_632 rfl d_Mo_post_46 ?_
    refine lv_iload hx hb d_Mo_post_49 (lv_at hl 4 rfl) ?_
    obtain ⟨hin, h⟩ := mm_ix_some h
    refine mm_iast (h := 42) (i := 0) hX hP hF mm_ls42 (fun _ => rfl) rfl hin d_Mo_post_51 (fun H locs hP hF => ?_)
    obtain ⟨g7, e8, h⟩ := mm_let_ex h
    have hP : mm_P L g7 H := by rw [e8]; exact hP
    refine lv_aload_n hx hb d_Mo_post_52 rfl (lv_at hl 0 rfl) ?_
    refine mm_get (h := 20) (i := r0) 25 hX hP hv_r0 rfl rfl uin_20 (by decide) ⟨rfl, rfl, rfl⟩ wt_637 rfl d_Mo_post_53 ?_
    refine lv_aload_n hx hb d_Mo_post_56 rfl (lv_at hl 0 rfl) ?_
    refine mm_get (h := 20) (i := r0) 20 hX hP hv_r0 rfl rfl uin_20 (by decide) ⟨rfl, rfl, rfl⟩ wt_632 rfl d_Mo_post_57 ?_
    refine lv_iload hx hb d_Mo_post_60 (lv_at hl 5 rfl) ?_
    obtain ⟨hin, h⟩ := mm_ix_some h
    refine mm_iast (h := 43) (i := 0) hX hP hF mm_ls43 (fun _ => rfl) rfl hin d_Mo_post_62 (fun H locs hP hF => ?_)
    obtain ⟨g9, e10, h⟩ := mm_let_ex h
    have hP : mm_P L g9 H := by rw [e10]; exact hP
    refine lv_aload_n hx hb d_Mo_post_63 rfl (lv_at hl 0 rfl) ?_
    refine mm_get (h := 20) (i := r0) 26 hX hP hv_r0 rfl rfl uin_20 (by decide) ⟨rfl, rfl, rfl⟩ wt_638 rfl d_Mo_post_64 ?_
    refine lv_aload_n hx hb d_Mo_post_67 rfl (lv_at hl 0 rfl) ?_
    refine mm_get (h := 20) (i := r0) 20 hX hP hv_r0 rfl rfl uin_20 (by decide) ⟨rfl, rfl, rfl⟩ wt_632 rfl d_Mo_post_68 ?_
    refine lv_iload hx hb d_Mo_post_71 (lv_at hl 6 rfl) ?_
    obtain ⟨hin, h⟩ := mm_ix_some h
    refine mm_iast (h := 44) (i := 0) hX hP hF mm_ls44 (fun _ => rfl) rfl hin d_Mo_post_73 (fun H locs hP hF => ?_)
    obtain ⟨g11, e12, h⟩ := mm_let_ex h
    have hP : mm_P L g11 H := by rw [e12]; exact hP
    refine lv_aload_n hx hb d_Mo_post_74 rfl (lv_at hl 0 rfl) ?_
    refine lv_dup hx hb d_Mo_post_75 rfl ?_
    refine mm_get (h := 20) (i := r0) 20 hX hP hv_r0 rfl rfl uin_20 (by decide) ⟨rfl, rfl, rfl⟩ wt_632 rfl d_Mo_post_76 ?_
    refine lv_iconst (v := 1) hx hb d_Mo_post_79 (by decide) ?_
    refine lv_iadd hx hb d_Mo_post_80 ?_
    refine mm_put (h := 20) (i := r0) 20 hX hP hF hv_r0 rfl rfl rfl uin_20 ty_20 tyok_20 nmok_20 (by decide) ⟨rfl, rfl, rfl⟩ rfl wt_632 rfl rfl rfl (Nat.le_of_ble_eq_true rfl) d_Mo_post_81 (fun H locs hP hF => ?_)
    obtain ⟨g13, e14, h⟩ := mm_let_ex h
    have hP : mm_P L g13 H := by rw [e14]; exact hP
    refine lv_iconst (v := 1) hx hb d_Mo_post_84 (by decide) ?_
    obtain ⟨hn, h⟩ := mm_nz_some h
    cases h
    exact mm_zret hx hb hr hn hlk hP hF d_Mo_post_85
  · have h := mm_pos hc h
    refine lv_iconst (v := 0) hx hb d_Mo_post_9 (by decide) ?_
    obtain ⟨hn, h⟩ := mm_nz_some h
    cases h
    exact mm_zret hx hb hr hn hlk hP hF d_Mo_post_10
set_option maxRecDepth 100000 in
set_option maxHeartbeats 4000000 in
theorem c_Mo_post {l : Launch} {L : mm_L} {g g' : mm_M} {eo : Nat} {v : Int32} {r0 : Nat} {x1 : Int32} {x2 : Int32} {x3 : Int32} {x4 : Int32} {x5 : Int32} {x6 : Int32} (hv_r0 : mm_lv L.1 20 r0) (h : f_Mo_post L.1 g r0 x1 x2 x3 x4 x5 x6 = some (eo, v, g')) : mm_C l y_Mo_post prog_9_method_11_code 7 (some .boolean) 0 0 L [.ref (L.2.1 20 r0), .int x1, .int x2, .int x3, .int x4, .int x5, .int x6] g (mm_oi eo v) g' := by
  intro p e R s m below meth c hX hP
  refine mm_enter (Nat.le_of_ble_eq_true rfl) fun ls hl => ?_
  exact w_Mo_post hX h hP (fun q hq => by cases hq) (lv_sub (l' := [(0, .ref (L.2.1 20 r0)), (1, .int x1), (2, .int x2), (3, .int x3), (4, .int x4), (5, .int x5), (6, .int x6)]) hl [0, 1, 2, 3, 4, 5, 6] rfl) hv_r0
def f_Mo_postFirst (n : Nat) (g : mm_M) (r0 : Nat) (x1 : Int32) (x2 : Int32) : Option (Nat × Int32 × mm_M) :=
  mm_bd (f_Mo_direction n g r0 x1 x2) 0 (fun z1 g2 => mm_ix z1 24 (mm_ix z1 24 (mm_ix ((64 * z1) + ((g2 34 0 z1.toNatClampNeg) - (g2 34 0 z1.toNatClampNeg) / 64 * 64)) 1536 (mm_ix ((64 * z1) + ((g2 34 0 z1.toNatClampNeg) - (g2 34 0 z1.toNatClampNeg) / 64 * 64)) 1536 (mm_bd (f_Mo_post n g2 r0 0 x1 x2 (g2 34 0 z1.toNatClampNeg) (g2 37 0 ((64 * z1) + ((g2 34 0 z1.toNatClampNeg) - (g2 34 0 z1.toNatClampNeg) / 64 * 64)).toNatClampNeg) (g2 38 0 ((64 * z1) + ((g2 34 0 z1.toNatClampNeg) - (g2 34 0 z1.toNatClampNeg) / 64 * 64)).toNatClampNeg)) 0 (fun z4 g5 => some (0, 0, g5)))))))
set_option maxRecDepth 100000 in
set_option maxHeartbeats 4000000 in
theorem w_Mo_postFirst {p : Program} {l : Launch} {e : Env} {R : Room} {s : State} {m : MethodId} {args : Array Value} {below : List Frame} {meth : Method} {c : Code} {L : mm_L} {eo : Nat} {v : Int32} {g' : mm_M} {g : mm_M} {r0 : Nat} {x1 : Int32} {x2 : Int32} {H : Heap} {locs : List Loc} {ls : Array Slot} (hX : mm_X L prog_9_method_12_code 5 "LoanArrowsModel" none 1 26 p l R s m meth c) (h : f_Mo_postFirst L.1 g r0 x1 x2 = some (eo, v, g')) (hP : mm_P L g H) (hF : ∀ q ∈ locs, mm_F L q.base) (hl : lv_has ls 5 [(0, .ref (L.2.1 20 r0)), (1, .int x1), (2, .int x2)]) (hv_r0 : mm_lv L.1 20 r0) : W p l e R s m args below meth c H locs 0 0 (mm_Q below L s (mm_ov eo v) g') (F0 m 0 ls []) := by
  have hX0 := hX
  obtain ⟨hx, hb, hml, hown, hr, hlk, hex, hRf, hRl, hRc, hRs, hJ, hK, hst, h00⟩ := hX0
  unfold f_Mo_postFirst at h
  refine lv_aload_n hx hb d_Mo_postFirst_0 rfl (lv_at hl 0 rfl) ?_
  refine lv_iload_n hx hb d_Mo_postFirst_1 rfl (lv_at hl 1 rfl) ?_
  refine lv_iload_n hx hb d_Mo_postFirst_2 rfl (lv_at hl 2 rfl) ?_
  rcases mm_bd_some h with ⟨z1, g2, hf3, h⟩ | ⟨xe, z1, g2, hf3, h⟩
  · refine mm_goR (v := (some (.int z1))) (mm_goV (As := [.int x1, .int x2]) (rest := []) hX (c_Mo_direction hv_r0 hf3) yw_Mo_direction wt_744 wt_746 ws_1_3 hP hF (mm_recv (h := 20) (i := r0) hX hP hv_r0 rfl rfl) rfl hl.1 (Nat.le_of_ble_eq_true rfl) (by decide) (by decide) hRc hRs d_Mo_postFirst_3) hF (fun H locs hP hF _ => ?_)
    refine lv_istore_n hx hb d_Mo_postFirst_6 rfl hl (Nat.lt_of_lt_of_le (Nat.lt_succ_self _) (Nat.le_of_ble_eq_true rfl)) rfl (fun ls hl => ?_)
    have hl : lv_has ls 5 [(3, .int z1), (0, .ref (L.2.1 20 r0)), (1, .int x1), (2, .int x2)] := hl
    refine lv_bipush (v := 64) hx hb d_Mo_postFirst_7 (by decide) ?_
    refine lv_iload_n hx hb d_Mo_postFirst_9 rfl (lv_at hl 0 rfl) ?_
    refine lv_imul hx hb d_Mo_postFirst_10 ?_
    refine lv_aload_n hx hb d_Mo_postFirst_11 rfl (lv_at hl 1 rfl) ?_
    refine mm_get (h := 20) (i := r0) 15 hX hP hv_r0 rfl rfl uin_20 (by decide) ⟨rfl, rfl, rfl⟩ wt_627 rfl d_Mo_postFirst_12 ?_
    refine lv_iload_n hx hb d_Mo_postFirst_15 rfl (lv_at hl 0 rfl) ?_
    obtain ⟨hin, h⟩ := mm_ix_some h
    refine mm_iald (h := 34) (i := 0) hX hP mm_ls34 (fun _ => rfl) rfl hin d_Mo_postFirst_16 ?_
    refine lv_bipush (v := 64) hx hb d_Mo_postFirst_17 (by decide) ?_
    refine lv_irem hx hb d_Mo_postFirst_19 (by decide) ?_
    refine lv_iadd hx hb d_Mo_postFirst_20 ?_
    refine lv_istore hx hb d_Mo_postFirst_21 hl (Nat.lt_of_lt_of_le (Nat.lt_succ_self _) (Nat.le_of_ble_eq_true rfl)) rfl (fun ls hl => ?_)
    have hl : lv_has ls 5 [(4, .int ((64 * z1) + ((g2 34 0 z1.toNatClampNeg) - (g2 34 0 z1.toNatClampNeg) / 64 * 64))), (3, .int z1), (0, .ref (L.2.1 20 r0)), (1, .int x1), (2, .int x2)] := hl
    refine lv_aload_n hx hb d_Mo_postFirst_23 rfl (lv_at hl 2 rfl) ?_
    refine lv_iconst (v := 0) hx hb d_Mo_postFirst_24 (by decide) ?_
    refine lv_iload_n hx hb d_Mo_postFirst_25 rfl (lv_at hl 3 rfl) ?_
    refine lv_iload_n hx hb d_Mo_postFirst_26 rfl (lv_at hl 4 rfl) ?_
    refine lv_aload_n hx hb d_Mo_postFirst_27 rfl (lv_at hl 2 rfl) ?_
    refine mm_get (h := 20) (i := r0) 15 hX hP hv_r0 rfl rfl uin_20 (by decide) ⟨rfl, rfl, rfl⟩ wt_627 rfl d_Mo_postFirst_28 ?_
    refine lv_iload_n hx hb d_Mo_postFirst_31 rfl (lv_at hl 1 rfl) ?_
    obtain ⟨hin, h⟩ := mm_ix_some h
    refine mm_iald (h := 34) (i := 0) hX hP mm_ls34 (fun _ => rfl) rfl hin d_Mo_postFirst_32 ?_
    refine lv_aload_n hx hb d_Mo_postFirst_33 rfl (lv_at hl 2 rfl) ?_
    refine mm_get (h := 20) (i := r0) 18 hX hP hv_r0 rfl rfl uin_20 (by decide) ⟨rfl, rfl, rfl⟩ wt_630 rfl d_Mo_postFirst_34 ?_
    refine lv_iload hx hb d_Mo_postFirst_37 (lv_at hl 0 rfl) ?_
    obtain ⟨hin, h⟩ := mm_ix_some h
    refine mm_iald (h := 37) (i := 0) hX hP mm_ls37 (fun _ => rfl) rfl hin d_Mo_postFirst_39 ?_
    refine lv_aload_n hx hb d_Mo_postFirst_40 rfl (lv_at hl 2 rfl) ?_
    refine mm_get (h := 20) (i := r0) 19 hX hP hv_r0 rfl rfl uin_20 (by decide) ⟨rfl, rfl, rfl⟩ wt_631 rfl d_Mo_postFirst_41 ?_
    refine lv_iload hx hb d_Mo_postFirst_44 (lv_at hl 0 rfl) ?_
    obtain ⟨hin, h⟩ := mm_ix_some h
    refine mm_iald (h := 38) (i := 0) hX hP mm_ls38 (fun _ => rfl) rfl hin d_Mo_postFirst_46 ?_
    rcases mm_bd_some h with ⟨z4, g5, hf6, h⟩ | ⟨xe, z4, g5, hf6, h⟩
    · refine mm_goR (v := (some (.int z4))) (mm_goV (As := [.int 0, .int x1, .int x2, .int (g2 34 0 z1.toNatClampNeg), .int (g2 37 0 ((64 * z1) + ((g2 34 0 z1.toNatClampNeg) - (g2 34 0 z1.toNatClampNeg) / 64 * 64)).toNatClampNeg), .int (g2 38 0 ((64 * z1) + ((g2 34 0 z1.toNatClampNeg) - (g2 34 0 z1.toNatClampNeg) / 64 * 64)).toNatClampNeg)]) (rest := []) hX (c_Mo_post hv_r0 hf6) yw_Mo_post wt_752 wt_754 ws_1_5 hP hF (mm_recv (h := 20) (i := r0) hX hP hv_r0 rfl rfl) rfl hl.1 (Nat.le_of_ble_eq_true rfl) (by decide) (by decide) hRc hRs d_Mo_postFirst_47) hF (fun H locs hP hF _ => ?_)
      refine lv_pop hx hb d_Mo_postFirst_50 rfl ?_
      cases h
      exact mm_vret hx hb hr hlk hP hF d_Mo_postFirst_51
    · cases h
      exact mm_goT (x := xe + 1) (mm_goV (As := [.int 0, .int x1, .int x2, .int (g2 34 0 z1.toNatClampNeg), .int (g2 37 0 ((64 * z1) + ((g2 34 0 z1.toNatClampNeg) - (g2 34 0 z1.toNatClampNeg) / 64 * 64)).toNatClampNeg), .int (g2 38 0 ((64 * z1) + ((g2 34 0 z1.toNatClampNeg) - (g2 34 0 z1.toNatClampNeg) / 64 * 64)).toNatClampNeg)]) (rest := []) hX (c_Mo_post hv_r0 hf6) yw_Mo_post wt_752 wt_754 ws_1_5 hP hF (mm_recv (h := 20) (i := r0) hX hP hv_r0 rfl rfl) rfl hl.1 (Nat.le_of_ble_eq_true rfl) (by decide) (by decide) hRc hRs d_Mo_postFirst_47) hF hex hlk
  · cases h
    exact mm_goT (x := xe + 1) (mm_goV (As := [.int x1, .int x2]) (rest := []) hX (c_Mo_direction hv_r0 hf3) yw_Mo_direction wt_744 wt_746 ws_1_3 hP hF (mm_recv (h := 20) (i := r0) hX hP hv_r0 rfl rfl) rfl hl.1 (Nat.le_of_ble_eq_true rfl) (by decide) (by decide) hRc hRs d_Mo_postFirst_3) hF hex hlk
set_option maxRecDepth 100000 in
set_option maxHeartbeats 4000000 in
theorem c_Mo_postFirst {l : Launch} {L : mm_L} {g g' : mm_M} {eo : Nat} {v : Int32} {r0 : Nat} {x1 : Int32} {x2 : Int32} (hv_r0 : mm_lv L.1 20 r0) (h : f_Mo_postFirst L.1 g r0 x1 x2 = some (eo, v, g')) : mm_C l y_Mo_postFirst prog_9_method_12_code 5 none 1 26 L [.ref (L.2.1 20 r0), .int x1, .int x2] g (mm_ov eo v) g' := by
  intro p e R s m below meth c hX hP
  refine mm_enter (Nat.le_of_ble_eq_true rfl) fun ls hl => ?_
  exact w_Mo_postFirst hX h hP (fun q hq => by cases hq) (lv_sub (l' := [(0, .ref (L.2.1 20 r0)), (1, .int x1), (2, .int x2)]) hl [0, 1, 2] rfl) hv_r0
def f_Mo_write_b79 (n : Nat) (g : mm_M)  : Option (Nat × Int32 × mm_M) :=
  some (0, 0, g)
set_option maxRecDepth 100000 in
set_option maxHeartbeats 4000000 in
theorem w_Mo_write_b79 {p : Program} {l : Launch} {e : Env} {R : Room} {s : State} {m : MethodId} {args : Array Value} {below : List Frame} {meth : Method} {c : Code} {L : mm_L} {eo : Nat} {v : Int32} {g' : mm_M} {g : mm_M} {H : Heap} {locs : List Loc} {ls : Array Slot} (hX : mm_X L prog_9_method_13_code 7 "LoanArrowsModel" none 2 50 p l R s m meth c) (h : f_Mo_write_b79 L.1 g = some (eo, v, g')) (hP : mm_P L g H) (hF : ∀ q ∈ locs, mm_F L q.base) (hl : lv_has ls 7 []) : W p l e R s m args below meth c H locs 0 0 (mm_Q below L s (mm_ov eo v) g') (F0 m 79 ls []) := by
  have hX0 := hX
  obtain ⟨hx, hb, hml, hown, hr, hlk, hex, hRf, hRl, hRc, hRs, hJ, hK, hst, h00⟩ := hX0
  unfold f_Mo_write_b79 at h
  cases h
  exact mm_vret hx hb hr hlk hP hF d_Mo_write_79
def f_Mo_write (n : Nat) (g : mm_M) (r0 : Nat) (x1 : Int32) (x2 : Int32) (x3 : Int32) (x4 : Int32) : Option (Nat × Int32 × mm_M) :=
  mm_bd (f_Mo_direction n g r0 x1 x2) 0 (fun z1 g2 => mm_ix z1 24 (mm_ix ((64 * z1) + ((g2 35 0 z1.toNatClampNeg) - (g2 35 0 z1.toNatClampNeg) / 64 * 64)) 1536 (mm_let (mm_st g2 37 0 ((64 * z1) + ((g2 35 0 z1.toNatClampNeg) - (g2 35 0 z1.toNatClampNeg) / 64 * 64)).toNatClampNeg x3) (fun g4 => mm_ix ((64 * z1) + ((g2 35 0 z1.toNatClampNeg) - (g2 35 0 z1.toNatClampNeg) / 64 * 64)) 1536 (mm_let (mm_st g4 38 0 ((64 * z1) + ((g2 35 0 z1.toNatClampNeg) - (g2 35 0 z1.toNatClampNeg) / 64 * 64)).toNatClampNeg x4) (fun g6 => mm_ix z1 24 (mm_ix z1 24 (mm_let (mm_st g6 35 0 z1.toNatClampNeg ((g6 35 0 z1.toNatClampNeg) + 1)) (fun g8 => mm_ix z1 24 (mm_ix z1 24 ((if (g8 35 0 z1.toNatClampNeg) = ((g8 34 0 z1.toNatClampNeg) + 1) then mm_bd (f_Mo_postFirst n g8 r0 x1 x2) 0 (fun z10 g11 => f_Mo_write_b79 n g11) else f_Mo_write_b79 n g8))))))))))))
set_option maxRecDepth 100000 in
set_option maxHeartbeats 4000000 in
theorem w_Mo_write {p : Program} {l : Launch} {e : Env} {R : Room} {s : State} {m : MethodId} {args : Array Value} {below : List Frame} {meth : Method} {c : Code} {L : mm_L} {eo : Nat} {v : Int32} {g' : mm_M} {g : mm_M} {r0 : Nat} {x1 : Int32} {x2 : Int32} {x3 : Int32} {x4 : Int32} {H : Heap} {locs : List Loc} {ls : Array Slot} (hX : mm_X L prog_9_method_13_code 7 "LoanArrowsModel" none 2 50 p l R s m meth c) (h : f_Mo_write L.1 g r0 x1 x2 x3 x4 = some (eo, v, g')) (hP : mm_P L g H) (hF : ∀ q ∈ locs, mm_F L q.base) (hl : lv_has ls 7 [(0, .ref (L.2.1 20 r0)), (1, .int x1), (2, .int x2), (3, .int x3), (4, .int x4)]) (hv_r0 : mm_lv L.1 20 r0) : W p l e R s m args below meth c H locs 0 0 (mm_Q below L s (mm_ov eo v) g') (F0 m 0 ls []) := by
  have hX0 := hX
  obtain ⟨hx, hb, hml, hown, hr, hlk, hex, hRf, hRl, hRc, hRs, hJ, hK, hst, h00⟩ := hX0
  unfold f_Mo_write at h
  refine lv_aload_n hx hb d_Mo_write_0 rfl (lv_at hl 0 rfl) ?_
  refine lv_iload_n hx hb d_Mo_write_1 rfl (lv_at hl 1 rfl) ?_
  refine lv_iload_n hx hb d_Mo_write_2 rfl (lv_at hl 2 rfl) ?_
  rcases mm_bd_some h with ⟨z1, g2, hf3, h⟩ | ⟨xe, z1, g2, hf3, h⟩
  · refine mm_goR (v := (some (.int z1))) (mm_goV (As := [.int x1, .int x2]) (rest := []) hX (c_Mo_direction hv_r0 hf3) yw_Mo_direction wt_744 wt_746 ws_1_3 hP hF (mm_recv (h := 20) (i := r0) hX hP hv_r0 rfl rfl) rfl hl.1 (Nat.le_of_ble_eq_true rfl) (by decide) (by decide) hRc hRs d_Mo_write_3) hF (fun H locs hP hF _ => ?_)
    refine lv_istore hx hb d_Mo_write_6 hl (Nat.lt_of_lt_of_le (Nat.lt_succ_self _) (Nat.le_of_ble_eq_true rfl)) rfl (fun ls hl => ?_)
    have hl : lv_has ls 7 [(5, .int z1), (0, .ref (L.2.1 20 r0)), (1, .int x1), (2, .int x2), (3, .int x3), (4, .int x4)] := hl
    refine lv_bipush (v := 64) hx hb d_Mo_write_8 (by decide) ?_
    refine lv_iload hx hb d_Mo_write_10 (lv_at hl 0 rfl) ?_
    refine lv_imul hx hb d_Mo_write_12 ?_
    refine lv_aload_n hx hb d_Mo_write_13 rfl (lv_at hl 1 rfl) ?_
    refine mm_get (h := 20) (i := r0) 16 hX hP hv_r0 rfl rfl uin_20 (by decide) ⟨rfl, rfl, rfl⟩ wt_628 rfl d_Mo_write_14 ?_
    refine lv_iload hx hb d_Mo_write_17 (lv_at hl 0 rfl) ?_
    obtain ⟨hin, h⟩ := mm_ix_some h
    refine mm_iald (h := 35) (i := 0) hX hP mm_ls35 (fun _ => rfl) rfl hin d_Mo_write_19 ?_
    refine lv_bipush (v := 64) hx hb d_Mo_write_20 (by decide) ?_
    refine lv_irem hx hb d_Mo_write_22 (by decide) ?_
    refine lv_iadd hx hb d_Mo_write_23 ?_
    refine lv_istore hx hb d_Mo_write_24 hl (Nat.lt_of_lt_of_le (Nat.lt_succ_self _) (Nat.le_of_ble_eq_true rfl)) rfl (fun ls hl => ?_)
    have hl : lv_has ls 7 [(6, .int ((64 * z1) + ((g2 35 0 z1.toNatClampNeg) - (g2 35 0 z1.toNatClampNeg) / 64 * 64))), (5, .int z1), (0, .ref (L.2.1 20 r0)), (1, .int x1), (2, .int x2), (3, .int x3), (4, .int x4)] := hl
    refine lv_aload_n hx hb d_Mo_write_26 rfl (lv_at hl 2 rfl) ?_
    refine mm_get (h := 20) (i := r0) 18 hX hP hv_r0 rfl rfl uin_20 (by decide) ⟨rfl, rfl, rfl⟩ wt_630 rfl d_Mo_write_27 ?_
    refine lv_iload hx hb d_Mo_write_30 (lv_at hl 0 rfl) ?_
    refine lv_iload_n hx hb d_Mo_write_32 rfl (lv_at hl 5 rfl) ?_
    obtain ⟨hin, h⟩ := mm_ix_some h
    refine mm_iast (h := 37) (i := 0) hX hP hF mm_ls37 (fun _ => rfl) rfl hin d_Mo_write_33 (fun H locs hP hF => ?_)
    obtain ⟨g4, e5, h⟩ := mm_let_ex h
    have hP : mm_P L g4 H := by rw [e5]; exact hP
    refine lv_aload_n hx hb d_Mo_write_34 rfl (lv_at hl 2 rfl) ?_
    refine mm_get (h := 20) (i := r0) 19 hX hP hv_r0 rfl rfl uin_20 (by decide) ⟨rfl, rfl, rfl⟩ wt_631 rfl d_Mo_write_35 ?_
    refine lv_iload hx hb d_Mo_write_38 (lv_at hl 0 rfl) ?_
    refine lv_iload hx hb d_Mo_write_40 (lv_at hl 6 rfl) ?_
    obtain ⟨hin, h⟩ := mm_ix_some h
    refine mm_iast (h := 38) (i := 0) hX hP hF mm_ls38 (fun _ => rfl) rfl hin d_Mo_write_42 (fun H locs hP hF => ?_)
    obtain ⟨g6, e7, h⟩ := mm_let_ex h
    have hP : mm_P L g6 H := by rw [e7]; exact hP
    refine lv_aload_n hx hb d_Mo_write_43 rfl (lv_at hl 2 rfl) ?_
    refine mm_get (h := 20) (i := r0) 16 hX hP hv_r0 rfl rfl uin_20 (by decide) ⟨rfl, rfl, rfl⟩ wt_628 rfl d_Mo_write_44 ?_
    refine lv_iload hx hb d_Mo_write_47 (lv_at hl 1 rfl) ?_
    refine lv_dup2_11 hx hb d_Mo_write_49 rfl rfl ?_
    obtain ⟨hin, h⟩ := mm_ix_some h
    refine mm_iald (h := 35) (i := 0) hX hP mm_ls35 (fun _ => rfl) rfl hin d_Mo_write_50 ?_
    refine lv_iconst (v := 1) hx hb d_Mo_write_51 (by decide) ?_
    refine lv_iadd hx hb d_Mo_write_52 ?_
    obtain ⟨hin, h⟩ := mm_ix_some h
    refine mm_iast (h := 35) (i := 0) hX hP hF mm_ls35 (fun _ => rfl) rfl hin d_Mo_write_53 (fun H locs hP hF => ?_)
    obtain ⟨g8, e9, h⟩ := mm_let_ex h
    have hP : mm_P L g8 H := by rw [e9]; exact hP
    refine lv_aload_n hx hb d_Mo_write_54 rfl (lv_at hl 2 rfl) ?_
    refine mm_get (h := 20) (i := r0) 16 hX hP hv_r0 rfl rfl uin_20 (by decide) ⟨rfl, rfl, rfl⟩ wt_628 rfl d_Mo_write_55 ?_
    refine lv_iload hx hb d_Mo_write_58 (lv_at hl 1 rfl) ?_
    obtain ⟨hin, h⟩ := mm_ix_some h
    refine mm_iald (h := 35) (i := 0) hX hP mm_ls35 (fun _ => rfl) rfl hin d_Mo_write_60 ?_
    refine lv_aload_n hx hb d_Mo_write_61 rfl (lv_at hl 2 rfl) ?_
    refine mm_get (h := 20) (i := r0) 15 hX hP hv_r0 rfl rfl uin_20 (by decide) ⟨rfl, rfl, rfl⟩ wt_627 rfl d_Mo_write_62 ?_
    refine lv_iload hx hb d_Mo_write_65 (lv_at hl 1 rfl) ?_
    obtain ⟨hin, h⟩ := mm_ix_some h
    refine mm_iald (h := 34) (i := 0) hX hP mm_ls34 (fun _ => rfl) rfl hin d_Mo_write_67 ?_
    refine lv_iconst (v := 1) hx hb d_Mo_write_68 (by decide) ?_
    refine lv_iadd hx hb d_Mo_write_69 ?_
    refine lv_icmp_ne (tgt := 79) hx hb d_Mo_write_70 rfl (fun hc => ?_) (fun hc => ?_)
    · have h := mm_neg hc h
      exact w_Mo_write_b79 hX h hP hF (lv_sub (l' := []) hl [] rfl)
    · have h := mm_pos hc h
      refine lv_aload_n hx hb d_Mo_write_73 rfl (lv_at hl 2 rfl) ?_
      refine lv_iload_n hx hb d_Mo_write_74 rfl (lv_at hl 3 rfl) ?_
      refine lv_iload_n hx hb d_Mo_write_75 rfl (lv_at hl 4 rfl) ?_
      rcases mm_bd_some h with ⟨z10, g11, hf12, h⟩ | ⟨xe, z10, g11, hf12, h⟩
      · refine mm_goR (v := none) (mm_goV (As := [.int x1, .int x2]) (rest := []) hX (c_Mo_postFirst hv_r0 hf12) yw_Mo_postFirst wt_748 wt_750 ws_1_4 hP hF (mm_recv (h := 20) (i := r0) hX hP hv_r0 rfl rfl) rfl hl.1 (Nat.le_of_ble_eq_true rfl) (by decide) (by decide) hRc hRs d_Mo_write_76) hF (fun H locs hP hF _ => ?_)
        exact w_Mo_write_b79 hX h hP hF (lv_sub (l' := []) hl [] rfl)
      · cases h
        exact mm_goT (x := xe + 1) (mm_goV (As := [.int x1, .int x2]) (rest := []) hX (c_Mo_postFirst hv_r0 hf12) yw_Mo_postFirst wt_748 wt_750 ws_1_4 hP hF (mm_recv (h := 20) (i := r0) hX hP hv_r0 rfl rfl) rfl hl.1 (Nat.le_of_ble_eq_true rfl) (by decide) (by decide) hRc hRs d_Mo_write_76) hF hex hlk
  · cases h
    exact mm_goT (x := xe + 1) (mm_goV (As := [.int x1, .int x2]) (rest := []) hX (c_Mo_direction hv_r0 hf3) yw_Mo_direction wt_744 wt_746 ws_1_3 hP hF (mm_recv (h := 20) (i := r0) hX hP hv_r0 rfl rfl) rfl hl.1 (Nat.le_of_ble_eq_true rfl) (by decide) (by decide) hRc hRs d_Mo_write_3) hF hex hlk
set_option maxRecDepth 100000 in
set_option maxHeartbeats 4000000 in
theorem c_Mo_write {l : Launch} {L : mm_L} {g g' : mm_M} {eo : Nat} {v : Int32} {r0 : Nat} {x1 : Int32} {x2 : Int32} {x3 : Int32} {x4 : Int32} (hv_r0 : mm_lv L.1 20 r0) (h : f_Mo_write L.1 g r0 x1 x2 x3 x4 = some (eo, v, g')) : mm_C l y_Mo_write prog_9_method_13_code 7 none 2 50 L [.ref (L.2.1 20 r0), .int x1, .int x2, .int x3, .int x4] g (mm_ov eo v) g' := by
  intro p e R s m below meth c hX hP
  refine mm_enter (Nat.le_of_ble_eq_true rfl) fun ls hl => ?_
  exact w_Mo_write hX h hP (fun q hq => by cases hq) (lv_sub (l' := [(0, .ref (L.2.1 20 r0)), (1, .int x1), (2, .int x2), (3, .int x3), (4, .int x4)]) hl [0, 1, 2, 3, 4] rfl) hv_r0
def f_Mo_takeOut_l12 (n : Nat) : Nat → mm_M → Nat → Int32 → Option (Nat × Int32 × mm_M)
  | 0, _, _, _ => none
  | k + 1, g, r0, x2 => (if (g 20 r0 20) ≤ x2 then some (0, 0, g) else mm_ix (x2 + 1) 40 (mm_ix x2 40 (mm_let (mm_st g 39 0 x2.toNatClampNeg (g 39 0 (x2 + 1).toNatClampNeg)) (fun g1 => mm_ix (x2 + 1) 40 (mm_ix x2 40 (mm_let (mm_st g1 40 0 x2.toNatClampNeg (g1 40 0 (x2 + 1).toNatClampNeg)) (fun g3 => mm_ix (x2 + 1) 40 (mm_ix x2 40 (mm_let (mm_st g3 41 0 x2.toNatClampNeg (g3 41 0 (x2 + 1).toNatClampNeg)) (fun g5 => mm_ix (x2 + 1) 40 (mm_ix x2 40 (mm_let (mm_st g5 42 0 x2.toNatClampNeg (g5 42 0 (x2 + 1).toNatClampNeg)) (fun g7 => mm_ix (x2 + 1) 40 (mm_ix x2 40 (mm_let (mm_st g7 43 0 x2.toNatClampNeg (g7 43 0 (x2 + 1).toNatClampNeg)) (fun g9 => mm_ix (x2 + 1) 40 (mm_ix x2 40 (mm_let (mm_st g9 44 0 x2.toNatClampNeg (g9 44 0 (x2 + 1).toNatClampNeg)) (fun g11 => f_Mo_takeOut_l12 n k g11 r0 (x2 + 1))))))))))))))))))))
set_option maxRecDepth 100000 in
set_option maxHeartbeats 4000000 in
theorem w_Mo_takeOut_l12 {p : Program} {l : Launch} {e : Env} {R : Room} {s : State} {m : MethodId} {args : Array Value} {below : List Frame} {meth : Method} {c : Code} {L : mm_L} {eo : Nat} {v : Int32} {g' : mm_M} (hX : mm_X L prog_9_method_14_code 3 "LoanArrowsModel" none 0 0 p l R s m meth c) : ∀ (k : Nat) (g : mm_M) (r0 : Nat) (x2 : Int32) (H : Heap) (locs : List Loc) (ls : Array Slot), f_Mo_takeOut_l12 L.1 k g r0 x2 = some (eo, v, g') → mm_P L g H → (∀ q ∈ locs, mm_F L q.base) → lv_has ls 3 [(0, .ref (L.2.1 20 r0)), (2, .int x2)] → mm_lv L.1 20 r0 → W p l e R s m args below meth c H locs 0 0 (mm_Q below L s (mm_ov eo v) g') (F0 m 12 ls []) := by
  have hX0 := hX
  obtain ⟨hx, hb, hml, hown, hr, hlk, hex, hRf, hRl, hRc, hRs, hJ, hK, hst, h00⟩ := hX0
  intro k
  induction k with
  | zero =>
    intro g r0 x2 H locs ls h hP hF hl hv_r0
    rw [f_Mo_takeOut_l12] at h
    cases h
  | succ k ih =>
    intro g r0 x2 H locs ls h hP hF hl hv_r0
    rw [f_Mo_takeOut_l12] at h
    refine lv_iload_n hx hb d_Mo_takeOut_12 rfl (lv_at hl 1 rfl) ?_
    refine lv_aload_n hx hb d_Mo_takeOut_13 rfl (lv_at hl 0 rfl) ?_
    refine mm_get (h := 20) (i := r0) 20 hX hP hv_r0 rfl rfl uin_20 (by decide) ⟨rfl, rfl, rfl⟩ wt_632 rfl d_Mo_takeOut_14 ?_
    refine lv_icmp_ge (tgt := 110) hx hb d_Mo_takeOut_17 rfl (fun hc => ?_) (fun hc => ?_)
    · have h := mm_pos hc h
      cases h
      exact mm_vret hx hb hr hlk hP hF d_Mo_takeOut_110
    · have h := mm_neg hc h
      refine lv_aload_n hx hb d_Mo_takeOut_20 rfl (lv_at hl 0 rfl) ?_
      refine mm_get (h := 20) (i := r0) 21 hX hP hv_r0 rfl rfl uin_20 (by decide) ⟨rfl, rfl, rfl⟩ wt_633 rfl d_Mo_takeOut_21 ?_
      refine lv_iload_n hx hb d_Mo_takeOut_24 rfl (lv_at hl 1 rfl) ?_
      refine lv_aload_n hx hb d_Mo_takeOut_25 rfl (lv_at hl 0 rfl) ?_
      refine mm_get (h := 20) (i := r0) 21 hX hP hv_r0 rfl rfl uin_20 (by decide) ⟨rfl, rfl, rfl⟩ wt_633 rfl d_Mo_takeOut_26 ?_
      refine lv_iload_n hx hb d_Mo_takeOut_29 rfl (lv_at hl 1 rfl) ?_
      refine lv_iconst (v := 1) hx hb d_Mo_takeOut_30 (by decide) ?_
      refine lv_iadd hx hb d_Mo_takeOut_31 ?_
      obtain ⟨hin, h⟩ := mm_ix_some h
      refine mm_iald (h := 39) (i := 0) hX hP mm_ls39 (fun _ => rfl) rfl hin d_Mo_takeOut_32 ?_
      obtain ⟨hin, h⟩ := mm_ix_some h
      refine mm_iast (h := 39) (i := 0) hX hP hF mm_ls39 (fun _ => rfl) rfl hin d_Mo_takeOut_33 (fun H locs hP hF => ?_)
      obtain ⟨g1, e2, h⟩ := mm_let_ex h
      have hP : mm_P L g1 H := by rw [e2]; exact hP
      refine lv_aload_n hx hb d_Mo_takeOut_34 rfl (lv_at hl 0 rfl) ?_
      refine mm_get (h := 20) (i := r0) 22 hX hP hv_r0 rfl rfl uin_20 (by decide) ⟨rfl, rfl, rfl⟩ wt_634 rfl d_Mo_takeOut_35 ?_
      refine lv_iload_n hx hb d_Mo_takeOut_38 rfl (lv_at hl 1 rfl) ?_
      refine lv_aload_n hx hb d_Mo_takeOut_39 rfl (lv_at hl 0 rfl) ?_
      refine mm_get (h := 20) (i := r0) 22 hX hP hv_r0 rfl rfl uin_20 (by decide) ⟨rfl, rfl, rfl⟩ wt_634 rfl d_Mo_takeOut_40 ?_
      refine lv_iload_n hx hb d_Mo_takeOut_43 rfl (lv_at hl 1 rfl) ?_
      refine lv_iconst (v := 1) hx hb d_Mo_takeOut_44 (by decide) ?_
      refine lv_iadd hx hb d_Mo_takeOut_45 ?_
      obtain ⟨hin, h⟩ := mm_ix_some h
      refine mm_iald (h := 40) (i := 0) hX hP mm_ls40 (fun _ => rfl) rfl hin d_Mo_takeOut_46 ?_
      obtain ⟨hin, h⟩ := mm_ix_some h
      refine mm_iast (h := 40) (i := 0) hX hP hF mm_ls40 (fun _ => rfl) rfl hin d_Mo_takeOut_47 (fun H locs hP hF => ?_)
      obtain ⟨g3, e4, h⟩ := mm_let_ex h
      have hP : mm_P L g3 H := by rw [e4]; exact hP
      refine lv_aload_n hx hb d_Mo_takeOut_48 rfl (lv_at hl 0 rfl) ?_
      refine mm_get (h := 20) (i := r0) 23 hX hP hv_r0 rfl rfl uin_20 (by decide) ⟨rfl, rfl, rfl⟩ wt_635 rfl d_Mo_takeOut_49 ?_
      refine lv_iload_n hx hb d_Mo_takeOut_52 rfl (lv_at hl 1 rfl) ?_
      refine lv_aload_n hx hb d_Mo_takeOut_53 rfl (lv_at hl 0 rfl) ?_
      refine mm_get (h := 20) (i := r0) 23 hX hP hv_r0 rfl rfl uin_20 (by decide) ⟨rfl, rfl, rfl⟩ wt_635 rfl d_Mo_takeOut_54 ?_
      refine lv_iload_n hx hb d_Mo_takeOut_57 rfl (lv_at hl 1 rfl) ?_
      refine lv_iconst (v := 1) hx hb d_Mo_takeOut_58 (by decide) ?_
      refine lv_iadd hx hb d_Mo_takeOut_59 ?_
      obtain ⟨hin, h⟩ := mm_ix_some h
      refine mm_iald (h := 41) (i := 0) hX hP mm_ls41 (fun _ => rfl) rfl hin d_Mo_takeOut_60 ?_
      obtain ⟨hin, h⟩ := mm_ix_some h
      refine mm_iast (h := 41) (i := 0) hX hP hF mm_ls41 (fun _ => rfl) rfl hin d_Mo_takeOut_61 (fun H locs hP hF => ?_)
      obtain ⟨g5, e6, h⟩ := mm_let_ex h
      have hP : mm_P L g5 H := by rw [e6]; exact hP
      refine lv_aload_n hx hb d_Mo_takeOut_62 rfl (lv_at hl 0 rfl) ?_
      refine mm_get (h := 20) (i := r0) 24 hX hP hv_r0 rfl rfl uin_20 (by decide) ⟨rfl, rfl, rfl⟩ wt_636 rfl d_Mo_takeOut_63 ?_
      refine lv_iload_n hx hb d_Mo_takeOut_66 rfl (lv_at hl 1 rfl) ?_
      refine lv_aload_n hx hb d_Mo_takeOut_67 rfl (lv_at hl 0 rfl) ?_
      refine mm_get (h := 20) (i := r0) 24 hX hP hv_r0 rfl rfl uin_20 (by decide) ⟨rfl, rfl, rfl⟩ wt_636 rfl d_Mo_takeOut_68 ?_
      refine lv_iload_n hx hb d_Mo_takeOut_71 rfl (lv_at hl 1 rfl) ?_
      refine lv_iconst (v := 1) hx hb d_Mo_takeOut_72 (by decide) ?_
      refine lv_iadd hx hb d_Mo_takeOut_73 ?_
      obtain ⟨hin, h⟩ := mm_ix_some h
      refine mm_iald (h := 42) (i := 0) hX hP mm_ls42 (fun _ => rfl) rfl hin d_Mo_takeOut_74 ?_
      obtain ⟨hin, h⟩ := mm_ix_some h
      refine mm_iast (h := 42) (i := 0) hX hP hF mm_ls42 (fun _ => rfl) rfl hin d_Mo_takeOut_75 (fun H locs hP hF => ?_)
      obtain ⟨g7, e8, h⟩ := mm_let_ex h
      have hP : mm_P L g7 H := by rw [e8]; exact hP
      refine lv_aload_n hx hb d_Mo_takeOut_76 rfl (lv_at hl 0 rfl) ?_
      refine mm_get (h := 20) (i := r0) 25 hX hP hv_r0 rfl rfl uin_20 (by decide) ⟨rfl, rfl, rfl⟩ wt_637 rfl d_Mo_takeOut_77 ?_
      refine lv_iload_n hx hb d_Mo_takeOut_80 rfl (lv_at hl 1 rfl) ?_
      refine lv_aload_n hx hb d_Mo_takeOut_81 rfl (lv_at hl 0 rfl) ?_
      refine mm_get (h := 20) (i := r0) 25 hX hP hv_r0 rfl rfl uin_20 (by decide) ⟨rfl, rfl, rfl⟩ wt_637 rfl d_Mo_takeOut_82 ?_
      refine lv_iload_n hx hb d_Mo_takeOut_85 rfl (lv_at hl 1 rfl) ?_
      refine lv_iconst (v := 1) hx hb d_Mo_takeOut_86 (by decide) ?_
      refine lv_iadd hx hb d_Mo_takeOut_87 ?_
      obtain ⟨hin, h⟩ := mm_ix_some h
      refine mm_iald (h := 43) (i := 0) hX hP mm_ls43 (fun _ => rfl) rfl hin d_Mo_takeOut_88 ?_
      obtain ⟨hin, h⟩ := mm_ix_some h
      refine mm_iast (h := 43) (i := 0) hX hP hF mm_ls43 (fun _ => rfl) rfl hin d_Mo_takeOut_89 (fun H locs hP hF => ?_)
      obtain ⟨g9, e10, h⟩ := mm_let_ex h
      have hP : mm_P L g9 H := by rw [e10]; exact hP
      refine lv_aload_n hx hb d_Mo_takeOut_90 rfl (lv_at hl 0 rfl) ?_
      refine mm_get (h := 20) (i := r0) 26 hX hP hv_r0 rfl rfl uin_20 (by decide) ⟨rfl, rfl, rfl⟩ wt_638 rfl d_Mo_takeOut_91 ?_
      refine lv_iload_n hx hb d_Mo_takeOut_94 rfl (lv_at hl 1 rfl) ?_
      refine lv_aload_n hx hb d_Mo_takeOut_95 rfl (lv_at hl 0 rfl) ?_
      refine mm_get (h := 20) (i := r0) 26 hX hP hv_r0 rfl rfl uin_20 (by decide) ⟨rfl, rfl, rfl⟩ wt_638 rfl d_Mo_takeOut_96 ?_
      refine lv_iload_n hx hb d_Mo_takeOut_99 rfl (lv_at hl 1 rfl) ?_
      refine lv_iconst (v := 1) hx hb d_Mo_takeOut_100 (by decide) ?_
      refine lv_iadd hx hb d_Mo_takeOut_101 ?_
      obtain ⟨hin, h⟩ := mm_ix_some h
      refine mm_iald (h := 44) (i := 0) hX hP mm_ls44 (fun _ => rfl) rfl hin d_Mo_takeOut_102 ?_
      obtain ⟨hin, h⟩ := mm_ix_some h
      refine mm_iast (h := 44) (i := 0) hX hP hF mm_ls44 (fun _ => rfl) rfl hin d_Mo_takeOut_103 (fun H locs hP hF => ?_)
      obtain ⟨g11, e12, h⟩ := mm_let_ex h
      have hP : mm_P L g11 H := by rw [e12]; exact hP
      refine lv_iinc (k := 1) (v := (x2 + 1)) hx hb d_Mo_takeOut_104 hl rfl (congrArg (fun z => x2 + z) mm_i1) (Nat.lt_of_lt_of_le (Nat.lt_succ_self _) (Nat.le_of_ble_eq_true rfl)) rfl (fun ls hl => ?_)
      have hl : lv_has ls 3 [(2, .int (x2 + 1)), (0, .ref (L.2.1 20 r0))] := hl
      refine lv_goto (tgt := 12) hx hb d_Mo_takeOut_107 rfl ?_
      exact ih _ _ _ _ _ _ h hP hF (lv_sub (l' := [(0, .ref (L.2.1 20 r0)), (2, .int (x2 + 1))]) hl [1, 0] rfl) hv_r0
def f_Mo_takeOut (n : Nat) (g : mm_M) (r0 : Nat) (x1 : Int32) : Option (Nat × Int32 × mm_M) :=
  mm_let (mm_st g 20 r0 20 ((g 20 r0 20) - 1)) (fun g1 => f_Mo_takeOut_l12 n 4096 g1 r0 x1)
set_option maxRecDepth 100000 in
set_option maxHeartbeats 4000000 in
theorem w_Mo_takeOut {p : Program} {l : Launch} {e : Env} {R : Room} {s : State} {m : MethodId} {args : Array Value} {below : List Frame} {meth : Method} {c : Code} {L : mm_L} {eo : Nat} {v : Int32} {g' : mm_M} {g : mm_M} {r0 : Nat} {x1 : Int32} {H : Heap} {locs : List Loc} {ls : Array Slot} (hX : mm_X L prog_9_method_14_code 3 "LoanArrowsModel" none 0 0 p l R s m meth c) (h : f_Mo_takeOut L.1 g r0 x1 = some (eo, v, g')) (hP : mm_P L g H) (hF : ∀ q ∈ locs, mm_F L q.base) (hl : lv_has ls 3 [(0, .ref (L.2.1 20 r0)), (1, .int x1)]) (hv_r0 : mm_lv L.1 20 r0) : W p l e R s m args below meth c H locs 0 0 (mm_Q below L s (mm_ov eo v) g') (F0 m 0 ls []) := by
  have hX0 := hX
  obtain ⟨hx, hb, hml, hown, hr, hlk, hex, hRf, hRl, hRc, hRs, hJ, hK, hst, h00⟩ := hX0
  unfold f_Mo_takeOut at h
  refine lv_aload_n hx hb d_Mo_takeOut_0 rfl (lv_at hl 0 rfl) ?_
  refine lv_dup hx hb d_Mo_takeOut_1 rfl ?_
  refine mm_get (h := 20) (i := r0) 20 hX hP hv_r0 rfl rfl uin_20 (by decide) ⟨rfl, rfl, rfl⟩ wt_632 rfl d_Mo_takeOut_2 ?_
  refine lv_iconst (v := 1) hx hb d_Mo_takeOut_5 (by decide) ?_
  refine lv_isub hx hb d_Mo_takeOut_6 ?_
  refine mm_put (h := 20) (i := r0) 20 hX hP hF hv_r0 rfl rfl rfl uin_20 ty_20 tyok_20 nmok_20 (by decide) ⟨rfl, rfl, rfl⟩ rfl wt_632 rfl rfl rfl (Nat.le_of_ble_eq_true rfl) d_Mo_takeOut_7 (fun H locs hP hF => ?_)
  obtain ⟨g1, e2, h⟩ := mm_let_ex h
  have hP : mm_P L g1 H := by rw [e2]; exact hP
  refine lv_iload_n hx hb d_Mo_takeOut_10 rfl (lv_at hl 1 rfl) ?_
  refine lv_istore_n hx hb d_Mo_takeOut_11 rfl hl (Nat.lt_of_lt_of_le (Nat.lt_succ_self _) (Nat.le_of_ble_eq_true rfl)) rfl (fun ls hl => ?_)
  have hl : lv_has ls 3 [(2, .int x1), (0, .ref (L.2.1 20 r0)), (1, .int x1)] := hl
  exact w_Mo_takeOut_l12 hX _ _ _ _ _ _ _ h hP hF (lv_sub (l' := [(0, .ref (L.2.1 20 r0)), (2, .int x1)]) hl [1, 0] rfl) hv_r0
set_option maxRecDepth 100000 in
set_option maxHeartbeats 4000000 in
theorem c_Mo_takeOut {l : Launch} {L : mm_L} {g g' : mm_M} {eo : Nat} {v : Int32} {r0 : Nat} {x1 : Int32} (hv_r0 : mm_lv L.1 20 r0) (h : f_Mo_takeOut L.1 g r0 x1 = some (eo, v, g')) : mm_C l y_Mo_takeOut prog_9_method_14_code 3 none 0 0 L [.ref (L.2.1 20 r0), .int x1] g (mm_ov eo v) g' := by
  intro p e R s m below meth c hX hP
  refine mm_enter (Nat.le_of_ble_eq_true rfl) fun ls hl => ?_
  exact w_Mo_takeOut hX h hP (fun q hq => by cases hq) (lv_sub (l' := [(0, .ref (L.2.1 20 r0)), (1, .int x1)]) hl [0, 1] rfl) hv_r0
def f_Mo_opn_b66 (n : Nat) (g : mm_M)  : Option (Nat × Int32 × mm_M) :=
  some (0, 0, g)
set_option maxRecDepth 100000 in
set_option maxHeartbeats 4000000 in
theorem w_Mo_opn_b66 {p : Program} {l : Launch} {e : Env} {R : Room} {s : State} {m : MethodId} {args : Array Value} {below : List Frame} {meth : Method} {c : Code} {L : mm_L} {eo : Nat} {v : Int32} {g' : mm_M} {g : mm_M} {H : Heap} {locs : List Loc} {ls : Array Slot} (hX : mm_X L prog_9_method_15_code 5 "LoanArrowsModel" none 3 76 p l R s m meth c) (h : f_Mo_opn_b66 L.1 g = some (eo, v, g')) (hP : mm_P L g H) (hF : ∀ q ∈ locs, mm_F L q.base) (hl : lv_has ls 5 []) : W p l e R s m args below meth c H locs 0 0 (mm_Q below L s (mm_ov eo v) g') (F0 m 66 ls []) := by
  have hX0 := hX
  obtain ⟨hx, hb, hml, hown, hr, hlk, hex, hRf, hRl, hRc, hRs, hJ, hK, hst, h00⟩ := hX0
  unfold f_Mo_opn_b66 at h
  cases h
  exact mm_vret hx hb hr hlk hP hF d_Mo_opn_66
def f_Mo_opn (n : Nat) (g : mm_M) (r0 : Nat) (x1 : Int32) (x2 : Int32) : Option (Nat × Int32 × mm_M) :=
  mm_bd (f_Mo_at n g x1 x2) 0 (fun z1 g2 => mm_ix z1 36 ((if (g2 26 0 z1.toNatClampNeg) = 4 then mm_ix z1 36 (mm_let (mm_st g2 26 0 z1.toNatClampNeg 2) (fun g11 => f_Mo_opn_b66 n g11)) else mm_ix z1 36 ((if (g2 26 0 z1.toNatClampNeg) = 0 then mm_ix z1 36 (mm_let (mm_st g2 26 0 z1.toNatClampNeg 1) (fun g4 => mm_ix z1 36 (mm_ix z1 36 (mm_let (mm_st g4 24 0 z1.toNatClampNeg x1) (fun g6 => mm_bd (f_Mo_write n g6 r0 x1 (g4 24 0 z1.toNatClampNeg) x2 x1) 0 (fun z8 g9 => f_Mo_opn_b66 n g9)))))) else f_Mo_opn_b66 n g2)))))
set_option maxRecDepth 100000 in
set_option maxHeartbeats 4000000 in
theorem w_Mo_opn {p : Program} {l : Launch} {e : Env} {R : Room} {s : State} {m : MethodId} {args : Array Value} {below : List Frame} {meth : Method} {c : Code} {L : mm_L} {eo : Nat} {v : Int32} {g' : mm_M} {g : mm_M} {r0 : Nat} {x1 : Int32} {x2 : Int32} {H : Heap} {locs : List Loc} {ls : Array Slot} (hX : mm_X L prog_9_method_15_code 5 "LoanArrowsModel" none 3 76 p l R s m meth c) (h : f_Mo_opn L.1 g r0 x1 x2 = some (eo, v, g')) (hP : mm_P L g H) (hF : ∀ q ∈ locs, mm_F L q.base) (hl : lv_has ls 5 [(0, .ref (L.2.1 20 r0)), (1, .int x1), (2, .int x2)]) (hv_r0 : mm_lv L.1 20 r0) : W p l e R s m args below meth c H locs 0 0 (mm_Q below L s (mm_ov eo v) g') (F0 m 0 ls []) := by
  have hX0 := hX
  obtain ⟨hx, hb, hml, hown, hr, hlk, hex, hRf, hRl, hRc, hRs, hJ, hK, hst, h00⟩ := hX0
  unfold f_Mo_opn at h
  refine lv_iload_n hx hb d_Mo_opn_0 rfl (lv_at hl 1 rfl) ?_
  refine lv_iload_n hx hb d_Mo_opn_1 rfl (lv_at hl 2 rfl) ?_
  rcases mm_bd_some h with ⟨z1, g2, hf3, h⟩ | ⟨xe, z1, g2, hf3, h⟩
  · refine mm_goR (v := (some (.int z1))) (mm_goS (As := [.int x1, .int x2]) (rest := []) hX (c_Mo_at hf3) yw_Mo_at wt_717 wt_718 wt_8 hP hF rfl hl.1 (Nat.le_of_ble_eq_true rfl) (by decide) (by decide) hRc hRs d_Mo_opn_2) hF (fun H locs hP hF _ => ?_)
    refine lv_istore_n hx hb d_Mo_opn_5 rfl hl (Nat.lt_of_lt_of_le (Nat.lt_succ_self _) (Nat.le_of_ble_eq_true rfl)) rfl (fun ls hl => ?_)
    have hl : lv_has ls 5 [(3, .int z1), (0, .ref (L.2.1 20 r0)), (1, .int x1), (2, .int x2)] := hl
    refine lv_aload_n hx hb d_Mo_opn_6 rfl (lv_at hl 1 rfl) ?_
    refine mm_get (h := 20) (i := r0) 7 hX hP hv_r0 rfl rfl uin_20 (by decide) ⟨rfl, rfl, rfl⟩ wt_619 rfl d_Mo_opn_7 ?_
    refine lv_iload_n hx hb d_Mo_opn_10 rfl (lv_at hl 0 rfl) ?_
    obtain ⟨hin, h⟩ := mm_ix_some h
    refine mm_iald (h := 26) (i := 0) hX hP mm_ls26 (fun _ => rfl) rfl hin d_Mo_opn_11 ?_
    refine lv_iconst (v := 4) hx hb d_Mo_opn_12 (by decide) ?_
    refine lv_icmp_ne (tgt := 26) hx hb d_Mo_opn_13 rfl (fun hc => ?_) (fun hc => ?_)
    · have h := mm_neg hc h
      refine lv_aload_n hx hb d_Mo_opn_26 rfl (lv_at hl 1 rfl) ?_
      refine mm_get (h := 20) (i := r0) 7 hX hP hv_r0 rfl rfl uin_20 (by decide) ⟨rfl, rfl, rfl⟩ wt_619 rfl d_Mo_opn_27 ?_
      refine lv_iload_n hx hb d_Mo_opn_30 rfl (lv_at hl 0 rfl) ?_
      obtain ⟨hin, h⟩ := mm_ix_some h
      refine mm_iald (h := 26) (i := 0) hX hP mm_ls26 (fun _ => rfl) rfl hin d_Mo_opn_31 ?_
      refine lv_if_ne (tgt := 66) hx hb d_Mo_opn_32 rfl (fun hc => ?_) (fun hc => ?_)
      · have h := mm_neg hc h
        exact w_Mo_opn_b66 hX h hP hF (lv_sub (l' := []) hl [] rfl)
      · have h := mm_pos hc h
        refine lv_aload_n hx hb d_Mo_opn_35 rfl (lv_at hl 1 rfl) ?_
        refine mm_get (h := 20) (i := r0) 7 hX hP hv_r0 rfl rfl uin_20 (by decide) ⟨rfl, rfl, rfl⟩ wt_619 rfl d_Mo_opn_36 ?_
        refine lv_iload_n hx hb d_Mo_opn_39 rfl (lv_at hl 0 rfl) ?_
        refine lv_iconst (v := 1) hx hb d_Mo_opn_40 (by decide) ?_
        obtain ⟨hin, h⟩ := mm_ix_some h
        refine mm_iast (h := 26) (i := 0) hX hP hF mm_ls26 (fun _ => rfl) rfl hin d_Mo_opn_41 (fun H locs hP hF => ?_)
        obtain ⟨g4, e5, h⟩ := mm_let_ex h
        have hP : mm_P L g4 H := by rw [e5]; exact hP
        refine lv_aload_n hx hb d_Mo_opn_42 rfl (lv_at hl 1 rfl) ?_
        refine mm_get (h := 20) (i := r0) 5 hX hP hv_r0 rfl rfl uin_20 (by decide) ⟨rfl, rfl, rfl⟩ wt_617 rfl d_Mo_opn_43 ?_
        refine lv_iload_n hx hb d_Mo_opn_46 rfl (lv_at hl 0 rfl) ?_
        obtain ⟨hin, h⟩ := mm_ix_some h
        refine mm_iald (h := 24) (i := 0) hX hP mm_ls24 (fun _ => rfl) rfl hin d_Mo_opn_47 ?_
        refine lv_istore hx hb d_Mo_opn_48 hl (Nat.lt_of_lt_of_le (Nat.lt_succ_self _) (Nat.le_of_ble_eq_true rfl)) rfl (fun ls hl => ?_)
        have hl : lv_has ls 5 [(4, .int (g4 24 0 z1.toNatClampNeg)), (3, .int z1), (0, .ref (L.2.1 20 r0)), (1, .int x1), (2, .int x2)] := hl
        refine lv_aload_n hx hb d_Mo_opn_50 rfl (lv_at hl 2 rfl) ?_
        refine mm_get (h := 20) (i := r0) 5 hX hP hv_r0 rfl rfl uin_20 (by decide) ⟨rfl, rfl, rfl⟩ wt_617 rfl d_Mo_opn_51 ?_
        refine lv_iload_n hx hb d_Mo_opn_54 rfl (lv_at hl 1 rfl) ?_
        refine lv_iload_n hx hb d_Mo_opn_55 rfl (lv_at hl 3 rfl) ?_
        obtain ⟨hin, h⟩ := mm_ix_some h
        refine mm_iast (h := 24) (i := 0) hX hP hF mm_ls24 (fun _ => rfl) rfl hin d_Mo_opn_56 (fun H locs hP hF => ?_)
        obtain ⟨g6, e7, h⟩ := mm_let_ex h
        have hP : mm_P L g6 H := by rw [e7]; exact hP
        refine lv_aload_n hx hb d_Mo_opn_57 rfl (lv_at hl 2 rfl) ?_
        refine lv_iload_n hx hb d_Mo_opn_58 rfl (lv_at hl 3 rfl) ?_
        refine lv_iload hx hb d_Mo_opn_59 (lv_at hl 0 rfl) ?_
        refine lv_iload_n hx hb d_Mo_opn_61 rfl (lv_at hl 4 rfl) ?_
        refine lv_iload_n hx hb d_Mo_opn_62 rfl (lv_at hl 3 rfl) ?_
        rcases mm_bd_some h with ⟨z8, g9, hf10, h⟩ | ⟨xe, z8, g9, hf10, h⟩
        · refine mm_goR (v := none) (mm_goV (As := [.int x1, .int (g4 24 0 z1.toNatClampNeg), .int x2, .int x1]) (rest := []) hX (c_Mo_write hv_r0 hf10) yw_Mo_write wt_740 wt_742 ws_1_2 hP hF (mm_recv (h := 20) (i := r0) hX hP hv_r0 rfl rfl) rfl hl.1 (Nat.le_of_ble_eq_true rfl) (by decide) (by decide) hRc hRs d_Mo_opn_63) hF (fun H locs hP hF _ => ?_)
          exact w_Mo_opn_b66 hX h hP hF (lv_sub (l' := []) hl [] rfl)
        · cases h
          exact mm_goT (x := xe + 1) (mm_goV (As := [.int x1, .int (g4 24 0 z1.toNatClampNeg), .int x2, .int x1]) (rest := []) hX (c_Mo_write hv_r0 hf10) yw_Mo_write wt_740 wt_742 ws_1_2 hP hF (mm_recv (h := 20) (i := r0) hX hP hv_r0 rfl rfl) rfl hl.1 (Nat.le_of_ble_eq_true rfl) (by decide) (by decide) hRc hRs d_Mo_opn_63) hF hex hlk
    · have h := mm_pos hc h
      refine lv_aload_n hx hb d_Mo_opn_16 rfl (lv_at hl 1 rfl) ?_
      refine mm_get (h := 20) (i := r0) 7 hX hP hv_r0 rfl rfl uin_20 (by decide) ⟨rfl, rfl, rfl⟩ wt_619 rfl d_Mo_opn_17 ?_
      refine lv_iload_n hx hb d_Mo_opn_20 rfl (lv_at hl 0 rfl) ?_
      refine lv_iconst (v := 2) hx hb d_Mo_opn_21 (by decide) ?_
      obtain ⟨hin, h⟩ := mm_ix_some h
      refine mm_iast (h := 26) (i := 0) hX hP hF mm_ls26 (fun _ => rfl) rfl hin d_Mo_opn_22 (fun H locs hP hF => ?_)
      obtain ⟨g11, e12, h⟩ := mm_let_ex h
      have hP : mm_P L g11 H := by rw [e12]; exact hP
      refine lv_goto (tgt := 66) hx hb d_Mo_opn_23 rfl ?_
      exact w_Mo_opn_b66 hX h hP hF (lv_sub (l' := []) hl [] rfl)
  · cases h
    exact mm_goT (x := xe + 1) (mm_goS (As := [.int x1, .int x2]) (rest := []) hX (c_Mo_at hf3) yw_Mo_at wt_717 wt_718 wt_8 hP hF rfl hl.1 (Nat.le_of_ble_eq_true rfl) (by decide) (by decide) hRc hRs d_Mo_opn_2) hF hex hlk
set_option maxRecDepth 100000 in
set_option maxHeartbeats 4000000 in
theorem c_Mo_opn {l : Launch} {L : mm_L} {g g' : mm_M} {eo : Nat} {v : Int32} {r0 : Nat} {x1 : Int32} {x2 : Int32} (hv_r0 : mm_lv L.1 20 r0) (h : f_Mo_opn L.1 g r0 x1 x2 = some (eo, v, g')) : mm_C l y_Mo_opn prog_9_method_15_code 5 none 3 76 L [.ref (L.2.1 20 r0), .int x1, .int x2] g (mm_ov eo v) g' := by
  intro p e R s m below meth c hX hP
  refine mm_enter (Nat.le_of_ble_eq_true rfl) fun ls hl => ?_
  exact w_Mo_opn hX h hP (fun q hq => by cases hq) (lv_sub (l' := [(0, .ref (L.2.1 20 r0)), (1, .int x1), (2, .int x2)]) hl [0, 1, 2] rfl) hv_r0

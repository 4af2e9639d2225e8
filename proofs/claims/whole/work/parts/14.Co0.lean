def f_Co_isPlaced_b13 (n : Nat) (g : mm_M) (t0 : Int32) : Option (Nat × Int32 × mm_M) :=
  mm_nz t0 (some (0, t0, g))
set_option maxRecDepth 100000 in
set_option maxHeartbeats 4000000 in
theorem w_Co_isPlaced_b13 {p : Program} {l : Launch} {e : Env} {R : Room} {s : State} {m : MethodId} {args : Array Value} {below : List Frame} {meth : Method} {c : Code} {L : mm_L} {eo : Nat} {v : Int32} {g' : mm_M} {g : mm_M} {t0 : Int32} {H : Heap} {locs : List Loc} {ls : Array Slot} (hX : mm_X L prog_2_method_2_code 1 "LoanArrows$Copy" (some .boolean) 0 0 p l R s m meth c) (h : f_Co_isPlaced_b13 L.1 g t0 = some (eo, v, g')) (hP : mm_P L g H) (hF : ∀ q ∈ locs, mm_F L q.base) (hl : lv_has ls 1 []) : W p l e R s m args below meth c H locs 0 0 (mm_Q below L s (mm_oi eo v) g') (F0 m 13 ls [.int t0]) := by
  have hX0 := hX
  obtain ⟨hx, hb, hml, hown, hr, hlk, hex, hRf, hRl, hRc, hRs, hJ, hK, hst, h00⟩ := hX0
  unfold f_Co_isPlaced_b13 at h
  obtain ⟨hn, h⟩ := mm_nz_some h
  cases h
  exact mm_zret hx hb hr hn hlk hP hF d_Co_isPlaced_13
def f_Co_isPlaced (n : Nat) (g : mm_M) (r0 : Nat) : Option (Nat × Int32 × mm_M) :=
  (if (g 5 r0 3) = (-1) then f_Co_isPlaced_b13 n g 0 else f_Co_isPlaced_b13 n g 1)
set_option maxRecDepth 100000 in
set_option maxHeartbeats 4000000 in
theorem w_Co_isPlaced {p : Program} {l : Launch} {e : Env} {R : Room} {s : State} {m : MethodId} {args : Array Value} {below : List Frame} {meth : Method} {c : Code} {L : mm_L} {eo : Nat} {v : Int32} {g' : mm_M} {g : mm_M} {r0 : Nat} {H : Heap} {locs : List Loc} {ls : Array Slot} (hX : mm_X L prog_2_method_2_code 1 "LoanArrows$Copy" (some .boolean) 0 0 p l R s m meth c) (h : f_Co_isPlaced L.1 g r0 = some (eo, v, g')) (hP : mm_P L g H) (hF : ∀ q ∈ locs, mm_F L q.base) (hl : lv_has ls 1 [(0, .ref (L.2.1 5 r0))]) (hv_r0 : mm_lv L.1 5 r0) : W p l e R s m args below meth c H locs 0 0 (mm_Q below L s (mm_oi eo v) g') (F0 m 0 ls []) := by
  have hX0 := hX
  obtain ⟨hx, hb, hml, hown, hr, hlk, hex, hRf, hRl, hRc, hRs, hJ, hK, hst, h00⟩ := hX0
  unfold f_Co_isPlaced at h
  refine lv_aload_n hx hb d_Co_isPlaced_0 rfl (lv_at hl 0 rfl) ?_
  refine mm_get (h := 5) (i := r0) 3 hX hP hv_r0 rfl rfl uin_5 (by decide) ⟨rfl, rfl, rfl⟩ wt_84 rfl d_Co_isPlaced_1 ?_
  refine lv_iconst (v := -1) hx hb d_Co_isPlaced_4 (by decide) ?_
  refine lv_icmp_eq (tgt := 12) hx hb d_Co_isPlaced_5 rfl (fun hc => ?_) (fun hc => ?_)
  · have h := mm_pos hc h
    refine lv_iconst (v := 0) hx hb d_Co_isPlaced_12 (by decide) ?_
    exact w_Co_isPlaced_b13 hX h hP hF (lv_sub (l' := []) hl [] rfl)
  · have h := mm_neg hc h
    refine lv_iconst (v := 1) hx hb d_Co_isPlaced_8 (by decide) ?_
    refine lv_goto (tgt := 13) hx hb d_Co_isPlaced_9 rfl ?_
    exact w_Co_isPlaced_b13 hX h hP hF (lv_sub (l' := []) hl [] rfl)
set_option maxRecDepth 100000 in
set_option maxHeartbeats 4000000 in
theorem c_Co_isPlaced {l : Launch} {L : mm_L} {g g' : mm_M} {eo : Nat} {v : Int32} {r0 : Nat} (hv_r0 : mm_lv L.1 5 r0) (h : f_Co_isPlaced L.1 g r0 = some (eo, v, g')) : mm_C l y_Co_isPlaced prog_2_method_2_code 1 (some .boolean) 0 0 L [.ref (L.2.1 5 r0)] g (mm_oi eo v) g' := by
  intro p e R s m below meth c hX hP
  refine mm_enter (Nat.le_of_ble_eq_true rfl) fun ls hl => ?_
  exact w_Co_isPlaced hX h hP (fun q hq => by cases hq) (lv_sub (l' := [(0, .ref (L.2.1 5 r0))]) hl [0] rfl) hv_r0
def f_Co_settle_l2 (n : Nat) : Nat → mm_M → Nat → Int32 → Nat → Int32 → Option (Nat × Int32 × mm_M)
  | 0, _, _, _, _, _ => none
  | k + 1, g, r0, x1, r2, x3 => (if (Int32.ofNat n) ≤ x3 then mm_ix x1 n (mm_let (mm_st g 8 (12 * r0 + x1.toNatClampNeg) 4 4) (fun g2 => mm_let (mm_st g2 5 r0 3 x1) (fun g4 => some (0, 0, g4)))) else mm_ix x3 n (mm_bd (f_Tr_stepTowards n g r2 x3 x1) 0 (fun z7 g8 => mm_let (mm_st g8 8 (12 * r0 + x3.toNatClampNeg) 2 z7) (fun g10 => f_Co_settle_l2 n k g10 r0 x1 r2 (x3 + 1)))))
set_option maxRecDepth 100000 in
set_option maxHeartbeats 4000000 in
theorem w_Co_settle_l2 {p : Program} {l : Launch} {e : Env} {R : Room} {s : State} {m : MethodId} {args : Array Value} {below : List Frame} {meth : Method} {c : Code} {L : mm_L} {eo : Nat} {v : Int32} {g' : mm_M} (hX : mm_X L prog_2_method_3_code 4 "LoanArrows$Copy" none 1 24 p l R s m meth c) : ∀ (k : Nat) (g : mm_M) (r0 : Nat) (x1 : Int32) (r2 : Nat) (x3 : Int32) (H : Heap) (locs : List Loc) (ls : Array Slot), f_Co_settle_l2 L.1 k g r0 x1 r2 x3 = some (eo, v, g') → mm_P L g H → (∀ q ∈ locs, mm_F L q.base) → lv_has ls 4 [(0, .ref (L.2.1 5 r0)), (1, .int x1), (2, .ref (L.2.1 2 r2)), (3, .int x3)] → mm_lv L.1 5 r0 → mm_lv L.1 2 r2 → W p l e R s m args below meth c H locs 0 0 (mm_Q below L s (mm_ov eo v) g') (F0 m 2 ls []) := by
  have hX0 := hX
  obtain ⟨hx, hb, hml, hown, hr, hlk, hex, hRf, hRl, hRc, hRs, hJ, hK, hst, h00⟩ := hX0
  intro k
  induction k with
  | zero =>
    intro g r0 x1 r2 x3 H locs ls h hP hF hl hv_r0 hv_r2
    rw [f_Co_settle_l2] at h
    cases h
  | succ k ih =>
    intro g r0 x1 r2 x3 H locs ls h hP hF hl hv_r0 hv_r2
    rw [f_Co_settle_l2] at h
    refine lv_iload_n hx hb d_Co_settle_2 rfl (lv_at hl 3 rfl) ?_
    refine lv_aload_n hx hb d_Co_settle_3 rfl (lv_at hl 0 rfl) ?_
    refine mm_get (h := 5) (i := r0) 0 hX hP hv_r0 rfl rfl uin_5 (by decide) ⟨rfl, rfl, rfl⟩ wt_80 rfl d_Co_settle_4 ?_
    refine mm_alen (t := 3) (h := 6) (i := r0) hX hP hv_r0 rfl rfl rfl d_Co_settle_7 ?_
    refine lv_icmp_ge (tgt := 32) hx hb d_Co_settle_8 rfl (fun hc => ?_) (fun hc => ?_)
    · have h := mm_pos hc h
      refine lv_aload_n hx hb d_Co_settle_32 rfl (lv_at hl 0 rfl) ?_
      refine mm_get (h := 5) (i := r0) 0 hX hP hv_r0 rfl rfl uin_5 (by decide) ⟨rfl, rfl, rfl⟩ wt_80 rfl d_Co_settle_33 ?_
      refine lv_iload_n hx hb d_Co_settle_36 rfl (lv_at hl 1 rfl) ?_
      obtain ⟨hin1, h⟩ := mm_ix_some h
      refine mm_aald (t := 3) (h := 6) (i := r0) hX hP hv_r0 rfl rfl rfl hin1 d_Co_settle_37 ?_
      refine lv_iconst (v := 4) hx hb d_Co_settle_38 (by decide) ?_
      refine mm_putN (h := 8) (i := (12 * r0 + x1.toNatClampNeg)) 4 hX hP hF (mm_l8 (n := L.1) hv_r0 hin1) rfl rfl rfl uin_8 ty_8 tyok_8 nmok_8 (by decide) ⟨rfl, rfl, rfl⟩ rfl wn_64 rfl rfl rfl (Nat.le_of_ble_eq_true rfl) d_Co_settle_39 (fun H locs hP hF => ?_)
      obtain ⟨g2, e3, h⟩ := mm_let_ex h
      have hP : mm_P L g2 H := by rw [e3]; exact hP
      refine lv_aload_n hx hb d_Co_settle_42 rfl (lv_at hl 0 rfl) ?_
      refine lv_iload_n hx hb d_Co_settle_43 rfl (lv_at hl 1 rfl) ?_
      refine mm_put (h := 5) (i := r0) 3 hX hP hF hv_r0 rfl rfl rfl uin_5 ty_5 tyok_5 nmok_5 (by decide) ⟨rfl, rfl, rfl⟩ rfl wt_84 rfl rfl rfl (Nat.le_of_ble_eq_true rfl) d_Co_settle_44 (fun H locs hP hF => ?_)
      obtain ⟨g4, e5, h⟩ := mm_let_ex h
      have hP : mm_P L g4 H := by rw [e5]; exact hP
      cases h
      exact mm_vret hx hb hr hlk hP hF d_Co_settle_47
    · have h := mm_neg hc h
      refine lv_aload_n hx hb d_Co_settle_11 rfl (lv_at hl 0 rfl) ?_
      refine mm_get (h := 5) (i := r0) 0 hX hP hv_r0 rfl rfl uin_5 (by decide) ⟨rfl, rfl, rfl⟩ wt_80 rfl d_Co_settle_12 ?_
      refine lv_iload_n hx hb d_Co_settle_15 rfl (lv_at hl 3 rfl) ?_
      obtain ⟨hin6, h⟩ := mm_ix_some h
      refine mm_aald (t := 3) (h := 6) (i := r0) hX hP hv_r0 rfl rfl rfl hin6 d_Co_settle_16 ?_
      refine lv_aload_n hx hb d_Co_settle_17 rfl (lv_at hl 2 rfl) ?_
      refine lv_iload_n hx hb d_Co_settle_18 rfl (lv_at hl 3 rfl) ?_
      refine lv_iload_n hx hb d_Co_settle_19 rfl (lv_at hl 1 rfl) ?_
      rcases mm_bd_some h with ⟨z7, g8, hf9, h⟩ | ⟨xe, z7, g8, hf9, h⟩
      · refine mm_goR (v := (some (.int z7))) (mm_goV (As := [.int x3, .int x1]) (rest := [.ref (L.2.1 8 (12 * r0 + x3.toNatClampNeg))]) hX (c_Tr_stepTowards hv_r2 hf9) yw_Tr_stepTowards wt_304 wt_305 wt_306 hP hF (mm_recv (h := 2) (i := r2) hX hP hv_r2 rfl rfl) rfl hl.1 (Nat.le_of_ble_eq_true rfl) (by decide) (by decide) hRc hRs d_Co_settle_20) hF (fun H locs hP hF _ => ?_)
        refine mm_putN (h := 8) (i := (12 * r0 + x3.toNatClampNeg)) 2 hX hP hF (mm_l8 (n := L.1) hv_r0 hin6) rfl rfl rfl uin_8 ty_8 tyok_8 nmok_8 (by decide) ⟨rfl, rfl, rfl⟩ rfl wn_58 rfl rfl rfl (Nat.le_of_ble_eq_true rfl) d_Co_settle_23 (fun H locs hP hF => ?_)
        obtain ⟨g10, e11, h⟩ := mm_let_ex h
        have hP : mm_P L g10 H := by rw [e11]; exact hP
        refine lv_iinc (k := 3) (v := (x3 + 1)) hx hb d_Co_settle_26 hl rfl (congrArg (fun z => x3 + z) mm_i1) (Nat.lt_of_lt_of_le (Nat.lt_succ_self _) (Nat.le_of_ble_eq_true rfl)) rfl (fun ls hl => ?_)
        have hl : lv_has ls 4 [(3, .int (x3 + 1)), (0, .ref (L.2.1 5 r0)), (1, .int x1), (2, .ref (L.2.1 2 r2))] := hl
        refine lv_goto (tgt := 2) hx hb d_Co_settle_29 rfl ?_
        exact ih _ _ _ _ _ _ _ _ h hP hF (lv_sub (l' := [(0, .ref (L.2.1 5 r0)), (1, .int x1), (2, .ref (L.2.1 2 r2)), (3, .int (x3 + 1))]) hl [1, 2, 3, 0] rfl) hv_r0 hv_r2
      · cases h
        exact mm_goT (x := xe + 1) (mm_goV (As := [.int x3, .int x1]) (rest := [.ref (L.2.1 8 (12 * r0 + x3.toNatClampNeg))]) hX (c_Tr_stepTowards hv_r2 hf9) yw_Tr_stepTowards wt_304 wt_305 wt_306 hP hF (mm_recv (h := 2) (i := r2) hX hP hv_r2 rfl rfl) rfl hl.1 (Nat.le_of_ble_eq_true rfl) (by decide) (by decide) hRc hRs d_Co_settle_20) hF hex hlk
def f_Co_settle (n : Nat) (g : mm_M) (r0 : Nat) (x1 : Int32) (r2 : Nat) : Option (Nat × Int32 × mm_M) :=
  f_Co_settle_l2 n 4096 g r0 x1 r2 0
set_option maxRecDepth 100000 in
set_option maxHeartbeats 4000000 in
theorem w_Co_settle {p : Program} {l : Launch} {e : Env} {R : Room} {s : State} {m : MethodId} {args : Array Value} {below : List Frame} {meth : Method} {c : Code} {L : mm_L} {eo : Nat} {v : Int32} {g' : mm_M} {g : mm_M} {r0 : Nat} {x1 : Int32} {r2 : Nat} {H : Heap} {locs : List Loc} {ls : Array Slot} (hX : mm_X L prog_2_method_3_code 4 "LoanArrows$Copy" none 1 24 p l R s m meth c) (h : f_Co_settle L.1 g r0 x1 r2 = some (eo, v, g')) (hP : mm_P L g H) (hF : ∀ q ∈ locs, mm_F L q.base) (hl : lv_has ls 4 [(0, .ref (L.2.1 5 r0)), (1, .int x1), (2, .ref (L.2.1 2 r2))]) (hv_r0 : mm_lv L.1 5 r0) (hv_r2 : mm_lv L.1 2 r2) : W p l e R s m args below meth c H locs 0 0 (mm_Q below L s (mm_ov eo v) g') (F0 m 0 ls []) := by
  have hX0 := hX
  obtain ⟨hx, hb, hml, hown, hr, hlk, hex, hRf, hRl, hRc, hRs, hJ, hK, hst, h00⟩ := hX0
  unfold f_Co_settle at h
  refine lv_iconst (v := 0) hx hb d_Co_settle_0 (by decide) ?_
  refine lv_istore_n hx hb d_Co_settle_1 rfl hl (Nat.lt_of_lt_of_le (Nat.lt_succ_self _) (Nat.le_of_ble_eq_true rfl)) rfl (fun ls hl => ?_)
  have hl : lv_has ls 4 [(3, .int 0), (0, .ref (L.2.1 5 r0)), (1, .int x1), (2, .ref (L.2.1 2 r2))] := hl
  exact w_Co_settle_l2 hX _ _ _ _ _ _ _ _ _ h hP hF (lv_sub (l' := [(0, .ref (L.2.1 5 r0)), (1, .int x1), (2, .ref (L.2.1 2 r2)), (3, .int 0)]) hl [1, 2, 3, 0] rfl) hv_r0 hv_r2
set_option maxRecDepth 100000 in
set_option maxHeartbeats 4000000 in
theorem c_Co_settle {l : Launch} {L : mm_L} {g g' : mm_M} {eo : Nat} {v : Int32} {r0 : Nat} {x1 : Int32} {r2 : Nat} (hv_r0 : mm_lv L.1 5 r0) (hv_r2 : mm_lv L.1 2 r2) (h : f_Co_settle L.1 g r0 x1 r2 = some (eo, v, g')) : mm_C l y_Co_settle prog_2_method_3_code 4 none 1 24 L [.ref (L.2.1 5 r0), .int x1, .ref (L.2.1 2 r2)] g (mm_ov eo v) g' := by
  intro p e R s m below meth c hX hP
  refine mm_enter (Nat.le_of_ble_eq_true rfl) fun ls hl => ?_
  exact w_Co_settle hX h hP (fun q hq => by cases hq) (lv_sub (l' := [(0, .ref (L.2.1 5 r0)), (1, .int x1), (2, .ref (L.2.1 2 r2))]) hl [0, 1, 2] rfl) hv_r0 hv_r2
def f_Co_sendOn (n : Nat) (g : mm_M) (r0 : Nat) (x1 : Int32) : Option (Nat × Int32 × mm_M) :=
  mm_ix x1 n (mm_let (mm_st g 5 r0 3 (g 8 (12 * r0 + x1.toNatClampNeg) 3)) (fun g2 => mm_let (mm_st g2 5 r0 4 1) (fun g4 => mm_let (mm_st g4 8 (12 * r0 + x1.toNatClampNeg) 3 (-1)) (fun g6 => mm_let (mm_st g6 8 (12 * r0 + x1.toNatClampNeg) 4 0) (fun g8 => some (0, 0, g8))))))
set_option maxRecDepth 100000 in
set_option maxHeartbeats 4000000 in
theorem w_Co_sendOn {p : Program} {l : Launch} {e : Env} {R : Room} {s : State} {m : MethodId} {args : Array Value} {below : List Frame} {meth : Method} {c : Code} {L : mm_L} {eo : Nat} {v : Int32} {g' : mm_M} {g : mm_M} {r0 : Nat} {x1 : Int32} {H : Heap} {locs : List Loc} {ls : Array Slot} (hX : mm_X L prog_2_method_4_code 3 "LoanArrows$Copy" none 0 0 p l R s m meth c) (h : f_Co_sendOn L.1 g r0 x1 = some (eo, v, g')) (hP : mm_P L g H) (hF : ∀ q ∈ locs, mm_F L q.base) (hl : lv_has ls 3 [(0, .ref (L.2.1 5 r0)), (1, .int x1)]) (hv_r0 : mm_lv L.1 5 r0) : W p l e R s m args below meth c H locs 0 0 (mm_Q below L s (mm_ov eo v) g') (F0 m 0 ls []) := by
  have hX0 := hX
  obtain ⟨hx, hb, hml, hown, hr, hlk, hex, hRf, hRl, hRc, hRs, hJ, hK, hst, h00⟩ := hX0
  unfold f_Co_sendOn at h
  refine lv_aload_n hx hb d_Co_sendOn_0 rfl (lv_at hl 0 rfl) ?_
  refine mm_get (h := 5) (i := r0) 0 hX hP hv_r0 rfl rfl uin_5 (by decide) ⟨rfl, rfl, rfl⟩ wt_80 rfl d_Co_sendOn_1 ?_
  refine lv_iload_n hx hb d_Co_sendOn_4 rfl (lv_at hl 1 rfl) ?_
  obtain ⟨hin1, h⟩ := mm_ix_some h
  refine mm_aald (t := 3) (h := 6) (i := r0) hX hP hv_r0 rfl rfl rfl hin1 d_Co_sendOn_5 ?_
  refine lv_astore_n hx hb d_Co_sendOn_6 rfl hl (Nat.lt_of_lt_of_le (Nat.lt_succ_self _) (Nat.le_of_ble_eq_true rfl)) rfl (fun ls hl => ?_)
  have hl : lv_has ls 3 [(2, .ref (L.2.1 8 (12 * r0 + x1.toNatClampNeg))), (0, .ref (L.2.1 5 r0)), (1, .int x1)] := hl
  refine lv_aload_n hx hb d_Co_sendOn_7 rfl (lv_at hl 1 rfl) ?_
  refine lv_aload_n hx hb d_Co_sendOn_8 rfl (lv_at hl 0 rfl) ?_
  refine mm_getN (h := 8) (i := (12 * r0 + x1.toNatClampNeg)) 3 hX hP (mm_l8 (n := L.1) hv_r0 hin1) rfl rfl uin_8 (by decide) ⟨rfl, rfl, rfl⟩ wn_61 rfl d_Co_sendOn_9 ?_
  refine mm_put (h := 5) (i := r0) 3 hX hP hF hv_r0 rfl rfl rfl uin_5 ty_5 tyok_5 nmok_5 (by decide) ⟨rfl, rfl, rfl⟩ rfl wt_84 rfl rfl rfl (Nat.le_of_ble_eq_true rfl) d_Co_sendOn_12 (fun H locs hP hF => ?_)
  obtain ⟨g2, e3, h⟩ := mm_let_ex h
  have hP : mm_P L g2 H := by rw [e3]; exact hP
  refine lv_aload_n hx hb d_Co_sendOn_15 rfl (lv_at hl 1 rfl) ?_
  refine lv_iconst (v := 1) hx hb d_Co_sendOn_16 (by decide) ?_
  refine mm_put (h := 5) (i := r0) 4 hX hP hF hv_r0 rfl rfl rfl uin_5 ty_5 tyok_5 nmok_5 (by decide) ⟨rfl, rfl, rfl⟩ rfl wt_86 rfl (by decide) (by decide) (Nat.le_of_ble_eq_true rfl) d_Co_sendOn_17 (fun H locs hP hF => ?_)
  obtain ⟨g4, e5, h⟩ := mm_let_ex h
  have hP : mm_P L g4 H := by rw [e5]; exact hP
  refine lv_aload_n hx hb d_Co_sendOn_20 rfl (lv_at hl 0 rfl) ?_
  refine lv_iconst (v := -1) hx hb d_Co_sendOn_21 (by decide) ?_
  refine mm_putN (h := 8) (i := (12 * r0 + x1.toNatClampNeg)) 3 hX hP hF (mm_l8 (n := L.1) hv_r0 hin1) rfl rfl rfl uin_8 ty_8 tyok_8 nmok_8 (by decide) ⟨rfl, rfl, rfl⟩ rfl wn_61 rfl rfl rfl (Nat.le_of_ble_eq_true rfl) d_Co_sendOn_22 (fun H locs hP hF => ?_)
  obtain ⟨g6, e7, h⟩ := mm_let_ex h
  have hP : mm_P L g6 H := by rw [e7]; exact hP
  refine lv_aload_n hx hb d_Co_sendOn_25 rfl (lv_at hl 0 rfl) ?_
  refine lv_iconst (v := 0) hx hb d_Co_sendOn_26 (by decide) ?_
  refine mm_putN (h := 8) (i := (12 * r0 + x1.toNatClampNeg)) 4 hX hP hF (mm_l8 (n := L.1) hv_r0 hin1) rfl rfl rfl uin_8 ty_8 tyok_8 nmok_8 (by decide) ⟨rfl, rfl, rfl⟩ rfl wn_64 rfl rfl rfl (Nat.le_of_ble_eq_true rfl) d_Co_sendOn_27 (fun H locs hP hF => ?_)
  obtain ⟨g8, e9, h⟩ := mm_let_ex h
  have hP : mm_P L g8 H := by rw [e9]; exact hP
  cases h
  exact mm_vret hx hb hr hlk hP hF d_Co_sendOn_30
set_option maxRecDepth 100000 in
set_option maxHeartbeats 4000000 in
theorem c_Co_sendOn {l : Launch} {L : mm_L} {g g' : mm_M} {eo : Nat} {v : Int32} {r0 : Nat} {x1 : Int32} (hv_r0 : mm_lv L.1 5 r0) (h : f_Co_sendOn L.1 g r0 x1 = some (eo, v, g')) : mm_C l y_Co_sendOn prog_2_method_4_code 3 none 0 0 L [.ref (L.2.1 5 r0), .int x1] g (mm_ov eo v) g' := by
  intro p e R s m below meth c hX hP
  refine mm_enter (Nat.le_of_ble_eq_true rfl) fun ls hl => ?_
  exact w_Co_sendOn hX h hP (fun q hq => by cases hq) (lv_sub (l' := [(0, .ref (L.2.1 5 r0)), (1, .int x1)]) hl [0, 1] rfl) hv_r0
def f_Co_arrive (n : Nat) (g : mm_M) (r0 : Nat) : Option (Nat × Int32 × mm_M) :=
  mm_let (mm_st g 5 r0 4 0) (fun g1 => mm_ix (g1 5 r0 3) n (mm_let (mm_st g1 8 (12 * r0 + (g1 5 r0 3).toNatClampNeg) 4 2) (fun g4 => some (0, (g4 5 r0 3), g4))))
set_option maxRecDepth 100000 in
set_option maxHeartbeats 4000000 in
theorem w_Co_arrive {p : Program} {l : Launch} {e : Env} {R : Room} {s : State} {m : MethodId} {args : Array Value} {below : List Frame} {meth : Method} {c : Code} {L : mm_L} {eo : Nat} {v : Int32} {g' : mm_M} {g : mm_M} {r0 : Nat} {H : Heap} {locs : List Loc} {ls : Array Slot} (hX : mm_X L prog_2_method_5_code 1 "LoanArrows$Copy" (some .int) 0 0 p l R s m meth c) (h : f_Co_arrive L.1 g r0 = some (eo, v, g')) (hP : mm_P L g H) (hF : ∀ q ∈ locs, mm_F L q.base) (hl : lv_has ls 1 [(0, .ref (L.2.1 5 r0))]) (hv_r0 : mm_lv L.1 5 r0) : W p l e R s m args below meth c H locs 0 0 (mm_Q below L s (mm_oi eo v) g') (F0 m 0 ls []) := by
  have hX0 := hX
  obtain ⟨hx, hb, hml, hown, hr, hlk, hex, hRf, hRl, hRc, hRs, hJ, hK, hst, h00⟩ := hX0
  unfold f_Co_arrive at h
  refine lv_aload_n hx hb d_Co_arrive_0 rfl (lv_at hl 0 rfl) ?_
  refine lv_iconst (v := 0) hx hb d_Co_arrive_1 (by decide) ?_
  refine mm_put (h := 5) (i := r0) 4 hX hP hF hv_r0 rfl rfl rfl uin_5 ty_5 tyok_5 nmok_5 (by decide) ⟨rfl, rfl, rfl⟩ rfl wt_86 rfl (by decide) (by decide) (Nat.le_of_ble_eq_true rfl) d_Co_arrive_2 (fun H locs hP hF => ?_)
  obtain ⟨g1, e2, h⟩ := mm_let_ex h
  have hP : mm_P L g1 H := by rw [e2]; exact hP
  refine lv_aload_n hx hb d_Co_arrive_5 rfl (lv_at hl 0 rfl) ?_
  refine mm_get (h := 5) (i := r0) 0 hX hP hv_r0 rfl rfl uin_5 (by decide) ⟨rfl, rfl, rfl⟩ wt_80 rfl d_Co_arrive_6 ?_
  refine lv_aload_n hx hb d_Co_arrive_9 rfl (lv_at hl 0 rfl) ?_
  refine mm_get (h := 5) (i := r0) 3 hX hP hv_r0 rfl rfl uin_5 (by decide) ⟨rfl, rfl, rfl⟩ wt_84 rfl d_Co_arrive_10 ?_
  obtain ⟨hin3, h⟩ := mm_ix_some h
  refine mm_aald (t := 3) (h := 6) (i := r0) hX hP hv_r0 rfl rfl rfl hin3 d_Co_arrive_13 ?_
  refine lv_iconst (v := 2) hx hb d_Co_arrive_14 (by decide) ?_
  refine mm_putN (h := 8) (i := (12 * r0 + (g1 5 r0 3).toNatClampNeg)) 4 hX hP hF (mm_l8 (n := L.1) hv_r0 hin3) rfl rfl rfl uin_8 ty_8 tyok_8 nmok_8 (by decide) ⟨rfl, rfl, rfl⟩ rfl wn_64 rfl rfl rfl (Nat.le_of_ble_eq_true rfl) d_Co_arrive_15 (fun H locs hP hF => ?_)
  obtain ⟨g4, e5, h⟩ := mm_let_ex h
  have hP : mm_P L g4 H := by rw [e5]; exact hP
  refine lv_aload_n hx hb d_Co_arrive_18 rfl (lv_at hl 0 rfl) ?_
  refine mm_get (h := 5) (i := r0) 3 hX hP hv_r0 rfl rfl uin_5 (by decide) ⟨rfl, rfl, rfl⟩ wt_84 rfl d_Co_arrive_19 ?_
  cases h
  exact mm_iret hx hb hr hlk hP hF d_Co_arrive_22
set_option maxRecDepth 100000 in
set_option maxHeartbeats 4000000 in
theorem c_Co_arrive {l : Launch} {L : mm_L} {g g' : mm_M} {eo : Nat} {v : Int32} {r0 : Nat} (hv_r0 : mm_lv L.1 5 r0) (h : f_Co_arrive L.1 g r0 = some (eo, v, g')) : mm_C l y_Co_arrive prog_2_method_5_code 1 (some .int) 0 0 L [.ref (L.2.1 5 r0)] g (mm_oi eo v) g' := by
  intro p e R s m below meth c hX hP
  refine mm_enter (Nat.le_of_ble_eq_true rfl) fun ls hl => ?_
  exact w_Co_arrive hX h hP (fun q hq => by cases hq) (lv_sub (l' := [(0, .ref (L.2.1 5 r0))]) hl [0] rfl) hv_r0
def f_Co_recordLoan_b30 (n : Nat) (g : mm_M)  : Option (Nat × Int32 × mm_M) :=
  some (0, 0, g)
set_option maxRecDepth 100000 in
set_option maxHeartbeats 4000000 in
theorem w_Co_recordLoan_b30 {p : Program} {l : Launch} {e : Env} {R : Room} {s : State} {m : MethodId} {args : Array Value} {below : List Frame} {meth : Method} {c : Code} {L : mm_L} {eo : Nat} {v : Int32} {g' : mm_M} {g : mm_M} {H : Heap} {locs : List Loc} {ls : Array Slot} (hX : mm_X L prog_2_method_6_code 2 "LoanArrows$Copy" none 0 0 p l R s m meth c) (h : f_Co_recordLoan_b30 L.1 g = some (eo, v, g')) (hP : mm_P L g H) (hF : ∀ q ∈ locs, mm_F L q.base) (hl : lv_has ls 2 []) : W p l e R s m args below meth c H locs 0 0 (mm_Q below L s (mm_ov eo v) g') (F0 m 30 ls []) := by
  have hX0 := hX
  obtain ⟨hx, hb, hml, hown, hr, hlk, hex, hRf, hRl, hRc, hRs, hJ, hK, hst, h00⟩ := hX0
  unfold f_Co_recordLoan_b30 at h
  cases h
  exact mm_vret hx hb hr hlk hP hF d_Co_recordLoan_30
def f_Co_recordLoan (n : Nat) (g : mm_M) (r0 : Nat) (x1 : Int32) : Option (Nat × Int32 × mm_M) :=
  (if 200 ≤ (g 5 r0 2) then f_Co_recordLoan_b30 n g else mm_ix (g 5 r0 2) 200 (mm_let (mm_st g 7 r0 (g 5 r0 2).toNatClampNeg x1) (fun g1 => mm_let (mm_st g1 5 r0 2 ((g1 5 r0 2) + 1)) (fun g3 => f_Co_recordLoan_b30 n g3))))
set_option maxRecDepth 100000 in
set_option maxHeartbeats 4000000 in
theorem w_Co_recordLoan {p : Program} {l : Launch} {e : Env} {R : Room} {s : State} {m : MethodId} {args : Array Value} {below : List Frame} {meth : Method} {c : Code} {L : mm_L} {eo : Nat} {v : Int32} {g' : mm_M} {g : mm_M} {r0 : Nat} {x1 : Int32} {H : Heap} {locs : List Loc} {ls : Array Slot} (hX : mm_X L prog_2_method_6_code 2 "LoanArrows$Copy" none 0 0 p l R s m meth c) (h : f_Co_recordLoan L.1 g r0 x1 = some (eo, v, g')) (hP : mm_P L g H) (hF : ∀ q ∈ locs, mm_F L q.base) (hl : lv_has ls 2 [(0, .ref (L.2.1 5 r0)), (1, .int x1)]) (hv_r0 : mm_lv L.1 5 r0) : W p l e R s m args below meth c H locs 0 0 (mm_Q below L s (mm_ov eo v) g') (F0 m 0 ls []) := by
  have hX0 := hX
  obtain ⟨hx, hb, hml, hown, hr, hlk, hex, hRf, hRl, hRc, hRs, hJ, hK, hst, h00⟩ := hX0
  unfold f_Co_recordLoan at h
  refine lv_aload_n hx hb d_Co_recordLoan_0 rfl (lv_at hl 0 rfl) ?_
  refine mm_get (h := 5) (i := r0) 2 hX hP hv_r0 rfl rfl uin_5 (by decide) ⟨rfl, rfl, rfl⟩ wt_83 rfl d_Co_recordLoan_1 ?_
  refine lv_sipush (v := 200) hx hb d_Co_recordLoan_4 (by decide) ?_
  refine lv_icmp_ge (tgt := 30) hx hb d_Co_recordLoan_7 rfl (fun hc => ?_) (fun hc => ?_)
  · have h := mm_pos hc h
    exact w_Co_recordLoan_b30 hX h hP hF (lv_sub (l' := []) hl [] rfl)
  · have h := mm_neg hc h
    refine lv_aload_n hx hb d_Co_recordLoan_10 rfl (lv_at hl 0 rfl) ?_
    refine mm_get (h := 5) (i := r0) 1 hX hP hv_r0 rfl rfl uin_5 (by decide) ⟨rfl, rfl, rfl⟩ wt_82 rfl d_Co_recordLoan_11 ?_
    refine lv_aload_n hx hb d_Co_recordLoan_14 rfl (lv_at hl 0 rfl) ?_
    refine mm_get (h := 5) (i := r0) 2 hX hP hv_r0 rfl rfl uin_5 (by decide) ⟨rfl, rfl, rfl⟩ wt_83 rfl d_Co_recordLoan_15 ?_
    refine lv_iload_n hx hb d_Co_recordLoan_18 rfl (lv_at hl 1 rfl) ?_
    obtain ⟨hin, h⟩ := mm_ix_some h
    refine mm_iast (h := 7) (i := r0) hX hP hF hv_r0 (fun _ => rfl) rfl hin d_Co_recordLoan_19 (fun H locs hP hF => ?_)
    obtain ⟨g1, e2, h⟩ := mm_let_ex h
    have hP : mm_P L g1 H := by rw [e2]; exact hP
    refine lv_aload_n hx hb d_Co_recordLoan_20 rfl (lv_at hl 0 rfl) ?_
    refine lv_dup hx hb d_Co_recordLoan_21 rfl ?_
    refine mm_get (h := 5) (i := r0) 2 hX hP hv_r0 rfl rfl uin_5 (by decide) ⟨rfl, rfl, rfl⟩ wt_83 rfl d_Co_recordLoan_22 ?_
    refine lv_iconst (v := 1) hx hb d_Co_recordLoan_25 (by decide) ?_
    refine lv_iadd hx hb d_Co_recordLoan_26 ?_
    refine mm_put (h := 5) (i := r0) 2 hX hP hF hv_r0 rfl rfl rfl uin_5 ty_5 tyok_5 nmok_5 (by decide) ⟨rfl, rfl, rfl⟩ rfl wt_83 rfl rfl rfl (Nat.le_of_ble_eq_true rfl) d_Co_recordLoan_27 (fun H locs hP hF => ?_)
    obtain ⟨g3, e4, h⟩ := mm_let_ex h
    have hP : mm_P L g3 H := by rw [e4]; exact hP
    exact w_Co_recordLoan_b30 hX h hP hF (lv_sub (l' := []) hl [] rfl)
set_option maxRecDepth 100000 in
set_option maxHeartbeats 4000000 in
theorem c_Co_recordLoan {l : Launch} {L : mm_L} {g g' : mm_M} {eo : Nat} {v : Int32} {r0 : Nat} {x1 : Int32} (hv_r0 : mm_lv L.1 5 r0) (h : f_Co_recordLoan L.1 g r0 x1 = some (eo, v, g')) : mm_C l y_Co_recordLoan prog_2_method_6_code 2 none 0 0 L [.ref (L.2.1 5 r0), .int x1] g (mm_ov eo v) g' := by
  intro p e R s m below meth c hX hP
  refine mm_enter (Nat.le_of_ble_eq_true rfl) fun ls hl => ?_
  exact w_Co_recordLoan hX h hP (fun q hq => by cases hq) (lv_sub (l' := [(0, .ref (L.2.1 5 r0)), (1, .int x1)]) hl [0, 1] rfl) hv_r0
def f_Co_loanAt_b22 (n : Nat) (g : mm_M) (t0 : Int32) : Option (Nat × Int32 × mm_M) :=
  some (0, t0, g)
set_option maxRecDepth 100000 in
set_option maxHeartbeats 4000000 in
theorem w_Co_loanAt_b22 {p : Program} {l : Launch} {e : Env} {R : Room} {s : State} {m : MethodId} {args : Array Value} {below : List Frame} {meth : Method} {c : Code} {L : mm_L} {eo : Nat} {v : Int32} {g' : mm_M} {g : mm_M} {t0 : Int32} {H : Heap} {locs : List Loc} {ls : Array Slot} (hX : mm_X L prog_2_method_7_code 2 "LoanArrows$Copy" (some .int) 0 0 p l R s m meth c) (h : f_Co_loanAt_b22 L.1 g t0 = some (eo, v, g')) (hP : mm_P L g H) (hF : ∀ q ∈ locs, mm_F L q.base) (hl : lv_has ls 2 []) : W p l e R s m args below meth c H locs 0 0 (mm_Q below L s (mm_oi eo v) g') (F0 m 22 ls [.int t0]) := by
  have hX0 := hX
  obtain ⟨hx, hb, hml, hown, hr, hlk, hex, hRf, hRl, hRc, hRs, hJ, hK, hst, h00⟩ := hX0
  unfold f_Co_loanAt_b22 at h
  cases h
  exact mm_iret hx hb hr hlk hP hF d_Co_loanAt_22
def f_Co_loanAt_b21 (n : Nat) (g : mm_M)  : Option (Nat × Int32 × mm_M) :=
  f_Co_loanAt_b22 n g (-1)
set_option maxRecDepth 100000 in
set_option maxHeartbeats 4000000 in
theorem w_Co_loanAt_b21 {p : Program} {l : Launch} {e : Env} {R : Room} {s : State} {m : MethodId} {args : Array Value} {below : List Frame} {meth : Method} {c : Code} {L : mm_L} {eo : Nat} {v : Int32} {g' : mm_M} {g : mm_M} {H : Heap} {locs : List Loc} {ls : Array Slot} (hX : mm_X L prog_2_method_7_code 2 "LoanArrows$Copy" (some .int) 0 0 p l R s m meth c) (h : f_Co_loanAt_b21 L.1 g = some (eo, v, g')) (hP : mm_P L g H) (hF : ∀ q ∈ locs, mm_F L q.base) (hl : lv_has ls 2 []) : W p l e R s m args below meth c H locs 0 0 (mm_Q below L s (mm_oi eo v) g') (F0 m 21 ls []) := by
  have hX0 := hX
  obtain ⟨hx, hb, hml, hown, hr, hlk, hex, hRf, hRl, hRc, hRs, hJ, hK, hst, h00⟩ := hX0
  unfold f_Co_loanAt_b21 at h
  refine lv_iconst (v := -1) hx hb d_Co_loanAt_21 (by decide) ?_
  exact w_Co_loanAt_b22 hX h hP hF (lv_sub (l' := []) hl [] rfl)
def f_Co_loanAt (n : Nat) (g : mm_M) (r0 : Nat) (x1 : Int32) : Option (Nat × Int32 × mm_M) :=
  (if x1 < 0 then f_Co_loanAt_b21 n g else (if (g 5 r0 2) ≤ x1 then f_Co_loanAt_b21 n g else mm_ix x1 200 (f_Co_loanAt_b22 n g (g 7 r0 x1.toNatClampNeg))))
set_option maxRecDepth 100000 in
set_option maxHeartbeats 4000000 in
theorem w_Co_loanAt {p : Program} {l : Launch} {e : Env} {R : Room} {s : State} {m : MethodId} {args : Array Value} {below : List Frame} {meth : Method} {c : Code} {L : mm_L} {eo : Nat} {v : Int32} {g' : mm_M} {g : mm_M} {r0 : Nat} {x1 : Int32} {H : Heap} {locs : List Loc} {ls : Array Slot} (hX : mm_X L prog_2_method_7_code 2 "LoanArrows$Copy" (some .int) 0 0 p l R s m meth c) (h : f_Co_loanAt L.1 g r0 x1 = some (eo, v, g')) (hP : mm_P L g H) (hF : ∀ q ∈ locs, mm_F L q.base) (hl : lv_has ls 2 [(0, .ref (L.2.1 5 r0)), (1, .int x1)]) (hv_r0 : mm_lv L.1 5 r0) : W p l e R s m args below meth c H locs 0 0 (mm_Q below L s (mm_oi eo v) g') (F0 m 0 ls []) := by
  have hX0 := hX
  obtain ⟨hx, hb, hml, hown, hr, hlk, hex, hRf, hRl, hRc, hRs, hJ, hK, hst, h00⟩ := hX0
  unfold f_Co_loanAt at h
  refine lv_iload_n hx hb d_Co_loanAt_0 rfl (lv_at hl 1 rfl) ?_
  refine lv_if_lt (tgt := 21) hx hb d_Co_loanAt_1 rfl (fun hc => ?_) (fun hc => ?_)
  · have h := mm_pos hc h
    exact w_Co_loanAt_b21 hX h hP hF (lv_sub (l' := []) hl [] rfl)
  · have h := mm_neg hc h
    refine lv_iload_n hx hb d_Co_loanAt_4 rfl (lv_at hl 1 rfl) ?_
    refine lv_aload_n hx hb d_Co_loanAt_5 rfl (lv_at hl 0 rfl) ?_
    refine mm_get (h := 5) (i := r0) 2 hX hP hv_r0 rfl rfl uin_5 (by decide) ⟨rfl, rfl, rfl⟩ wt_83 rfl d_Co_loanAt_6 ?_
    refine lv_icmp_ge (tgt := 21) hx hb d_Co_loanAt_9 rfl (fun hc => ?_) (fun hc => ?_)
    · have h := mm_pos hc h
      exact w_Co_loanAt_b21 hX h hP hF (lv_sub (l' := []) hl [] rfl)
    · have h := mm_neg hc h
      refine lv_aload_n hx hb d_Co_loanAt_12 rfl (lv_at hl 0 rfl) ?_
      refine mm_get (h := 5) (i := r0) 1 hX hP hv_r0 rfl rfl uin_5 (by decide) ⟨rfl, rfl, rfl⟩ wt_82 rfl d_Co_loanAt_13 ?_
      refine lv_iload_n hx hb d_Co_loanAt_16 rfl (lv_at hl 1 rfl) ?_
      obtain ⟨hin, h⟩ := mm_ix_some h
      refine mm_iald (h := 7) (i := r0) hX hP hv_r0 (fun _ => rfl) rfl hin d_Co_loanAt_17 ?_
      refine lv_goto (tgt := 22) hx hb d_Co_loanAt_18 rfl ?_
      exact w_Co_loanAt_b22 hX h hP hF (lv_sub (l' := []) hl [] rfl)
set_option maxRecDepth 100000 in
set_option maxHeartbeats 4000000 in
theorem c_Co_loanAt {l : Launch} {L : mm_L} {g g' : mm_M} {eo : Nat} {v : Int32} {r0 : Nat} {x1 : Int32} (hv_r0 : mm_lv L.1 5 r0) (h : f_Co_loanAt L.1 g r0 x1 = some (eo, v, g')) : mm_C l y_Co_loanAt prog_2_method_7_code 2 (some .int) 0 0 L [.ref (L.2.1 5 r0), .int x1] g (mm_oi eo v) g' := by
  intro p e R s m below meth c hX hP
  refine mm_enter (Nat.le_of_ble_eq_true rfl) fun ls hl => ?_
  exact w_Co_loanAt hX h hP (fun q hq => by cases hq) (lv_sub (l' := [(0, .ref (L.2.1 5 r0)), (1, .int x1)]) hl [0, 1] rfl) hv_r0
def f_Co_chainMember_b48 (n : Nat) (g : mm_M) (x2 : Int32) : Option (Nat × Int32 × mm_M) :=
  some (0, x2, g)
set_option maxRecDepth 100000 in
set_option maxHeartbeats 4000000 in
theorem w_Co_chainMember_b48 {p : Program} {l : Launch} {e : Env} {R : Room} {s : State} {m : MethodId} {args : Array Value} {below : List Frame} {meth : Method} {c : Code} {L : mm_L} {eo : Nat} {v : Int32} {g' : mm_M} {g : mm_M} {x2 : Int32} {H : Heap} {locs : List Loc} {ls : Array Slot} (hX : mm_X L prog_2_method_8_code 4 "LoanArrows$Copy" (some .int) 0 0 p l R s m meth c) (h : f_Co_chainMember_b48 L.1 g x2 = some (eo, v, g')) (hP : mm_P L g H) (hF : ∀ q ∈ locs, mm_F L q.base) (hl : lv_has ls 4 [(2, .int x2)]) : W p l e R s m args below meth c H locs 0 0 (mm_Q below L s (mm_oi eo v) g') (F0 m 48 ls []) := by
  have hX0 := hX
  obtain ⟨hx, hb, hml, hown, hr, hlk, hex, hRf, hRl, hRc, hRs, hJ, hK, hst, h00⟩ := hX0
  unfold f_Co_chainMember_b48 at h
  refine lv_iload_n hx hb d_Co_chainMember_48 rfl (lv_at hl 0 rfl) ?_
  cases h
  exact mm_iret hx hb hr hlk hP hF d_Co_chainMember_49
def f_Co_chainMember_l13 (n : Nat) : Nat → mm_M → Nat → Int32 → Int32 → Int32 → Option (Nat × Int32 × mm_M)
  | 0, _, _, _, _, _ => none
  | k + 1, g, r0, x1, x2, x3 => (if x1 ≤ x3 then f_Co_chainMember_b48 n g x2 else (if (Int32.ofNat n) ≤ x3 then f_Co_chainMember_b48 n g x2 else (if x2 = (-1) then f_Co_chainMember_b48 n g x2 else mm_ix x2 n (f_Co_chainMember_l13 n k g r0 x1 (g 8 (12 * r0 + x2.toNatClampNeg) 3) (x3 + 1)))))
set_option maxRecDepth 100000 in
set_option maxHeartbeats 4000000 in
theorem w_Co_chainMember_l13 {p : Program} {l : Launch} {e : Env} {R : Room} {s : State} {m : MethodId} {args : Array Value} {below : List Frame} {meth : Method} {c : Code} {L : mm_L} {eo : Nat} {v : Int32} {g' : mm_M} (hX : mm_X L prog_2_method_8_code 4 "LoanArrows$Copy" (some .int) 0 0 p l R s m meth c) : ∀ (k : Nat) (g : mm_M) (r0 : Nat) (x1 : Int32) (x2 : Int32) (x3 : Int32) (H : Heap) (locs : List Loc) (ls : Array Slot), f_Co_chainMember_l13 L.1 k g r0 x1 x2 x3 = some (eo, v, g') → mm_P L g H → (∀ q ∈ locs, mm_F L q.base) → lv_has ls 4 [(0, .ref (L.2.1 5 r0)), (1, .int x1), (2, .int x2), (3, .int x3)] → mm_lv L.1 5 r0 → W p l e R s m args below meth c H locs 0 0 (mm_Q below L s (mm_oi eo v) g') (F0 m 13 ls []) := by
  have hX0 := hX
  obtain ⟨hx, hb, hml, hown, hr, hlk, hex, hRf, hRl, hRc, hRs, hJ, hK, hst, h00⟩ := hX0
  intro k
  induction k with
  | zero =>
    intro g r0 x1 x2 x3 H locs ls h hP hF hl hv_r0
    rw [f_Co_chainMember_l13] at h
    cases h
  | succ k ih =>
    intro g r0 x1 x2 x3 H locs ls h hP hF hl hv_r0
    rw [f_Co_chainMember_l13] at h
    refine lv_iload_n hx hb d_Co_chainMember_13 rfl (lv_at hl 3 rfl) ?_
    refine lv_iload_n hx hb d_Co_chainMember_14 rfl (lv_at hl 1 rfl) ?_
    refine lv_icmp_ge (tgt := 48) hx hb d_Co_chainMember_15 rfl (fun hc => ?_) (fun hc => ?_)
    · have h := mm_pos hc h
      exact w_Co_chainMember_b48 hX h hP hF (lv_sub (l' := [(2, .int x2)]) hl [2] rfl)
    · have h := mm_neg hc h
      refine lv_iload_n hx hb d_Co_chainMember_18 rfl (lv_at hl 3 rfl) ?_
      refine lv_aload_n hx hb d_Co_chainMember_19 rfl (lv_at hl 0 rfl) ?_
      refine mm_get (h := 5) (i := r0) 0 hX hP hv_r0 rfl rfl uin_5 (by decide) ⟨rfl, rfl, rfl⟩ wt_80 rfl d_Co_chainMember_20 ?_
      refine mm_alen (t := 3) (h := 6) (i := r0) hX hP hv_r0 rfl rfl rfl d_Co_chainMember_23 ?_
      refine lv_icmp_ge (tgt := 48) hx hb d_Co_chainMember_24 rfl (fun hc => ?_) (fun hc => ?_)
      · have h := mm_pos hc h
        exact w_Co_chainMember_b48 hX h hP hF (lv_sub (l' := [(2, .int x2)]) hl [2] rfl)
      · have h := mm_neg hc h
        refine lv_iload_n hx hb d_Co_chainMember_27 rfl (lv_at hl 2 rfl) ?_
        refine lv_iconst (v := -1) hx hb d_Co_chainMember_28 (by decide) ?_
        refine lv_icmp_eq (tgt := 48) hx hb d_Co_chainMember_29 rfl (fun hc => ?_) (fun hc => ?_)
        · have h := mm_pos hc h
          exact w_Co_chainMember_b48 hX h hP hF (lv_sub (l' := [(2, .int x2)]) hl [2] rfl)
        · have h := mm_neg hc h
          refine lv_aload_n hx hb d_Co_chainMember_32 rfl (lv_at hl 0 rfl) ?_
          refine mm_get (h := 5) (i := r0) 0 hX hP hv_r0 rfl rfl uin_5 (by decide) ⟨rfl, rfl, rfl⟩ wt_80 rfl d_Co_chainMember_33 ?_
          refine lv_iload_n hx hb d_Co_chainMember_36 rfl (lv_at hl 2 rfl) ?_
          obtain ⟨hin1, h⟩ := mm_ix_some h
          refine mm_aald (t := 3) (h := 6) (i := r0) hX hP hv_r0 rfl rfl rfl hin1 d_Co_chainMember_37 ?_
          refine mm_getN (h := 8) (i := (12 * r0 + x2.toNatClampNeg)) 3 hX hP (mm_l8 (n := L.1) hv_r0 hin1) rfl rfl uin_8 (by decide) ⟨rfl, rfl, rfl⟩ wn_61 rfl d_Co_chainMember_38 ?_
          refine lv_istore_n hx hb d_Co_chainMember_41 rfl hl (Nat.lt_of_lt_of_le (Nat.lt_succ_self _) (Nat.le_of_ble_eq_true rfl)) rfl (fun ls hl => ?_)
          have hl : lv_has ls 4 [(2, .int (g 8 (12 * r0 + x2.toNatClampNeg) 3)), (0, .ref (L.2.1 5 r0)), (1, .int x1), (3, .int x3)] := hl
          refine lv_iinc (k := 3) (v := (x3 + 1)) hx hb d_Co_chainMember_42 hl rfl (congrArg (fun z => x3 + z) mm_i1) (Nat.lt_of_lt_of_le (Nat.lt_succ_self _) (Nat.le_of_ble_eq_true rfl)) rfl (fun ls hl => ?_)
          have hl : lv_has ls 4 [(3, .int (x3 + 1)), (2, .int (g 8 (12 * r0 + x2.toNatClampNeg) 3)), (0, .ref (L.2.1 5 r0)), (1, .int x1)] := hl
          refine lv_goto (tgt := 13) hx hb d_Co_chainMember_45 rfl ?_
          exact ih _ _ _ _ _ _ _ _ h hP hF (lv_sub (l' := [(0, .ref (L.2.1 5 r0)), (1, .int x1), (2, .int (g 8 (12 * r0 + x2.toNatClampNeg) 3)), (3, .int (x3 + 1))]) hl [2, 3, 1, 0] rfl) hv_r0
def f_Co_chainMember (n : Nat) (g : mm_M) (r0 : Nat) (x1 : Int32) : Option (Nat × Int32 × mm_M) :=
  (if 0 ≤ x1 then f_Co_chainMember_l13 n 4096 g r0 x1 (g 5 r0 3) 0 else some (0, (-1), g))
set_option maxRecDepth 100000 in
set_option maxHeartbeats 4000000 in
theorem w_Co_chainMember {p : Program} {l : Launch} {e : Env} {R : Room} {s : State} {m : MethodId} {args : Array Value} {below : List Frame} {meth : Method} {c : Code} {L : mm_L} {eo : Nat} {v : Int32} {g' : mm_M} {g : mm_M} {r0 : Nat} {x1 : Int32} {H : Heap} {locs : List Loc} {ls : Array Slot} (hX : mm_X L prog_2_method_8_code 4 "LoanArrows$Copy" (some .int) 0 0 p l R s m meth c) (h : f_Co_chainMember L.1 g r0 x1 = some (eo, v, g')) (hP : mm_P L g H) (hF : ∀ q ∈ locs, mm_F L q.base) (hl : lv_has ls 4 [(0, .ref (L.2.1 5 r0)), (1, .int x1)]) (hv_r0 : mm_lv L.1 5 r0) : W p l e R s m args below meth c H locs 0 0 (mm_Q below L s (mm_oi eo v) g') (F0 m 0 ls []) := by
  have hX0 := hX
  obtain ⟨hx, hb, hml, hown, hr, hlk, hex, hRf, hRl, hRc, hRs, hJ, hK, hst, h00⟩ := hX0
  unfold f_Co_chainMember at h
  refine lv_iload_n hx hb d_Co_chainMember_0 rfl (lv_at hl 1 rfl) ?_
  refine lv_if_ge (tgt := 6) hx hb d_Co_chainMember_1 rfl (fun hc => ?_) (fun hc => ?_)
  · have h := mm_pos hc h
    refine lv_aload_n hx hb d_Co_chainMember_6 rfl (lv_at hl 0 rfl) ?_
    refine mm_get (h := 5) (i := r0) 3 hX hP hv_r0 rfl rfl uin_5 (by decide) ⟨rfl, rfl, rfl⟩ wt_84 rfl d_Co_chainMember_7 ?_
    refine lv_istore_n hx hb d_Co_chainMember_10 rfl hl (Nat.lt_of_lt_of_le (Nat.lt_succ_self _) (Nat.le_of_ble_eq_true rfl)) rfl (fun ls hl => ?_)
    have hl : lv_has ls 4 [(2, .int (g 5 r0 3)), (0, .ref (L.2.1 5 r0)), (1, .int x1)] := hl
    refine lv_iconst (v := 0) hx hb d_Co_chainMember_11 (by decide) ?_
    refine lv_istore_n hx hb d_Co_chainMember_12 rfl hl (Nat.lt_of_lt_of_le (Nat.lt_succ_self _) (Nat.le_of_ble_eq_true rfl)) rfl (fun ls hl => ?_)
    have hl : lv_has ls 4 [(3, .int 0), (2, .int (g 5 r0 3)), (0, .ref (L.2.1 5 r0)), (1, .int x1)] := hl
    exact w_Co_chainMember_l13 hX _ _ _ _ _ _ _ _ _ h hP hF (lv_sub (l' := [(0, .ref (L.2.1 5 r0)), (1, .int x1), (2, .int (g 5 r0 3)), (3, .int 0)]) hl [2, 3, 1, 0] rfl) hv_r0
  · have h := mm_neg hc h
    refine lv_iconst (v := -1) hx hb d_Co_chainMember_4 (by decide) ?_
    cases h
    exact mm_iret hx hb hr hlk hP hF d_Co_chainMember_5
set_option maxRecDepth 100000 in
set_option maxHeartbeats 4000000 in
theorem c_Co_chainMember {l : Launch} {L : mm_L} {g g' : mm_M} {eo : Nat} {v : Int32} {r0 : Nat} {x1 : Int32} (hv_r0 : mm_lv L.1 5 r0) (h : f_Co_chainMember L.1 g r0 x1 = some (eo, v, g')) : mm_C l y_Co_chainMember prog_2_method_8_code 4 (some .int) 0 0 L [.ref (L.2.1 5 r0), .int x1] g (mm_oi eo v) g' := by
  intro p e R s m below meth c hX hP
  refine mm_enter (Nat.le_of_ble_eq_true rfl) fun ls hl => ?_
  exact w_Co_chainMember hX h hP (fun q hq => by cases hq) (lv_sub (l' := [(0, .ref (L.2.1 5 r0)), (1, .int x1)]) hl [0, 1] rfl) hv_r0
def f_Co_chainEnd_b45 (n : Nat) (g : mm_M) (x1 : Int32) : Option (Nat × Int32 × mm_M) :=
  some (0, x1, g)
set_option maxRecDepth 100000 in
set_option maxHeartbeats 4000000 in
theorem w_Co_chainEnd_b45 {p : Program} {l : Launch} {e : Env} {R : Room} {s : State} {m : MethodId} {args : Array Value} {below : List Frame} {meth : Method} {c : Code} {L : mm_L} {eo : Nat} {v : Int32} {g' : mm_M} {g : mm_M} {x1 : Int32} {H : Heap} {locs : List Loc} {ls : Array Slot} (hX : mm_X L prog_2_method_9_code 3 "LoanArrows$Copy" (some .int) 0 0 p l R s m meth c) (h : f_Co_chainEnd_b45 L.1 g x1 = some (eo, v, g')) (hP : mm_P L g H) (hF : ∀ q ∈ locs, mm_F L q.base) (hl : lv_has ls 3 [(1, .int x1)]) : W p l e R s m args below meth c H locs 0 0 (mm_Q below L s (mm_oi eo v) g') (F0 m 45 ls []) := by
  have hX0 := hX
  obtain ⟨hx, hb, hml, hown, hr, hlk, hex, hRf, hRl, hRc, hRs, hJ, hK, hst, h00⟩ := hX0
  unfold f_Co_chainEnd_b45 at h
  refine lv_iload_n hx hb d_Co_chainEnd_45 rfl (lv_at hl 0 rfl) ?_
  cases h
  exact mm_iret hx hb hr hlk hP hF d_Co_chainEnd_46
def f_Co_chainEnd_l7 (n : Nat) : Nat → mm_M → Nat → Int32 → Int32 → Option (Nat × Int32 × mm_M)
  | 0, _, _, _, _ => none
  | k + 1, g, r0, x1, x2 => (if (Int32.ofNat n) ≤ x2 then f_Co_chainEnd_b45 n g x1 else mm_ix x1 n ((if (g 8 (12 * r0 + x1.toNatClampNeg) 3) = (-1) then f_Co_chainEnd_b45 n g x1 else mm_ix x1 n (f_Co_chainEnd_l7 n k g r0 (g 8 (12 * r0 + x1.toNatClampNeg) 3) (x2 + 1)))))
set_option maxRecDepth 100000 in
set_option maxHeartbeats 4000000 in
theorem w_Co_chainEnd_l7 {p : Program} {l : Launch} {e : Env} {R : Room} {s : State} {m : MethodId} {args : Array Value} {below : List Frame} {meth : Method} {c : Code} {L : mm_L} {eo : Nat} {v : Int32} {g' : mm_M} (hX : mm_X L prog_2_method_9_code 3 "LoanArrows$Copy" (some .int) 0 0 p l R s m meth c) : ∀ (k : Nat) (g : mm_M) (r0 : Nat) (x1 : Int32) (x2 : Int32) (H : Heap) (locs : List Loc) (ls : Array Slot), f_Co_chainEnd_l7 L.1 k g r0 x1 x2 = some (eo, v, g') → mm_P L g H → (∀ q ∈ locs, mm_F L q.base) → lv_has ls 3 [(0, .ref (L.2.1 5 r0)), (1, .int x1), (2, .int x2)] → mm_lv L.1 5 r0 → W p l e R s m args below meth c H locs 0 0 (mm_Q below L s (mm_oi eo v) g') (F0 m 7 ls []) := by
  have hX0 := hX
  obtain ⟨hx, hb, hml, hown, hr, hlk, hex, hRf, hRl, hRc, hRs, hJ, hK, hst, h00⟩ := hX0
  intro k
  induction k with
  | zero =>
    intro g r0 x1 x2 H locs ls h hP hF hl hv_r0
    rw [f_Co_chainEnd_l7] at h
    cases h
  | succ k ih =>
    intro g r0 x1 x2 H locs ls h hP hF hl hv_r0
    rw [f_Co_chainEnd_l7] at h
    refine lv_iload_n hx hb d_Co_chainEnd_7 rfl (lv_at hl 2 rfl) ?_
    refine lv_aload_n hx hb d_Co_chainEnd_8 rfl (lv_at hl 0 rfl) ?_
    refine mm_get (h := 5) (i := r0) 0 hX hP hv_r0 rfl rfl uin_5 (by decide) ⟨rfl, rfl, rfl⟩ wt_80 rfl d_Co_chainEnd_9 ?_
    refine mm_alen (t := 3) (h := 6) (i := r0) hX hP hv_r0 rfl rfl rfl d_Co_chainEnd_12 ?_
    refine lv_icmp_ge (tgt := 45) hx hb d_Co_chainEnd_13 rfl (fun hc => ?_) (fun hc => ?_)
    · have h := mm_pos hc h
      exact w_Co_chainEnd_b45 hX h hP hF (lv_sub (l' := [(1, .int x1)]) hl [1] rfl)
    · have h := mm_neg hc h
      refine lv_aload_n hx hb d_Co_chainEnd_16 rfl (lv_at hl 0 rfl) ?_
      refine mm_get (h := 5) (i := r0) 0 hX hP hv_r0 rfl rfl uin_5 (by decide) ⟨rfl, rfl, rfl⟩ wt_80 rfl d_Co_chainEnd_17 ?_
      refine lv_iload_n hx hb d_Co_chainEnd_20 rfl (lv_at hl 1 rfl) ?_
      obtain ⟨hin1, h⟩ := mm_ix_some h
      refine mm_aald (t := 3) (h := 6) (i := r0) hX hP hv_r0 rfl rfl rfl hin1 d_Co_chainEnd_21 ?_
      refine mm_getN (h := 8) (i := (12 * r0 + x1.toNatClampNeg)) 3 hX hP (mm_l8 (n := L.1) hv_r0 hin1) rfl rfl uin_8 (by decide) ⟨rfl, rfl, rfl⟩ wn_61 rfl d_Co_chainEnd_22 ?_
      refine lv_iconst (v := -1) hx hb d_Co_chainEnd_25 (by decide) ?_
      refine lv_icmp_eq (tgt := 45) hx hb d_Co_chainEnd_26 rfl (fun hc => ?_) (fun hc => ?_)
      · have h := mm_pos hc h
        exact w_Co_chainEnd_b45 hX h hP hF (lv_sub (l' := [(1, .int x1)]) hl [1] rfl)
      · have h := mm_neg hc h
        refine lv_aload_n hx hb d_Co_chainEnd_29 rfl (lv_at hl 0 rfl) ?_
        refine mm_get (h := 5) (i := r0) 0 hX hP hv_r0 rfl rfl uin_5 (by decide) ⟨rfl, rfl, rfl⟩ wt_80 rfl d_Co_chainEnd_30 ?_
        refine lv_iload_n hx hb d_Co_chainEnd_33 rfl (lv_at hl 1 rfl) ?_
        obtain ⟨hin2, h⟩ := mm_ix_some h
        refine mm_aald (t := 3) (h := 6) (i := r0) hX hP hv_r0 rfl rfl rfl hin2 d_Co_chainEnd_34 ?_
        refine mm_getN (h := 8) (i := (12 * r0 + x1.toNatClampNeg)) 3 hX hP (mm_l8 (n := L.1) hv_r0 hin2) rfl rfl uin_8 (by decide) ⟨rfl, rfl, rfl⟩ wn_61 rfl d_Co_chainEnd_35 ?_
        refine lv_istore_n hx hb d_Co_chainEnd_38 rfl hl (Nat.lt_of_lt_of_le (Nat.lt_succ_self _) (Nat.le_of_ble_eq_true rfl)) rfl (fun ls hl => ?_)
        have hl : lv_has ls 3 [(1, .int (g 8 (12 * r0 + x1.toNatClampNeg) 3)), (0, .ref (L.2.1 5 r0)), (2, .int x2)] := hl
        refine lv_iinc (k := 2) (v := (x2 + 1)) hx hb d_Co_chainEnd_39 hl rfl (congrArg (fun z => x2 + z) mm_i1) (Nat.lt_of_lt_of_le (Nat.lt_succ_self _) (Nat.le_of_ble_eq_true rfl)) rfl (fun ls hl => ?_)
        have hl : lv_has ls 3 [(2, .int (x2 + 1)), (1, .int (g 8 (12 * r0 + x1.toNatClampNeg) 3)), (0, .ref (L.2.1 5 r0))] := hl
        refine lv_goto (tgt := 7) hx hb d_Co_chainEnd_42 rfl ?_
        exact ih _ _ _ _ _ _ _ h hP hF (lv_sub (l' := [(0, .ref (L.2.1 5 r0)), (1, .int (g 8 (12 * r0 + x1.toNatClampNeg) 3)), (2, .int (x2 + 1))]) hl [2, 1, 0] rfl) hv_r0
def f_Co_chainEnd (n : Nat) (g : mm_M) (r0 : Nat) : Option (Nat × Int32 × mm_M) :=
  f_Co_chainEnd_l7 n 4096 g r0 (g 5 r0 3) 0
set_option maxRecDepth 100000 in
set_option maxHeartbeats 4000000 in
theorem w_Co_chainEnd {p : Program} {l : Launch} {e : Env} {R : Room} {s : State} {m : MethodId} {args : Array Value} {below : List Frame} {meth : Method} {c : Code} {L : mm_L} {eo : Nat} {v : Int32} {g' : mm_M} {g : mm_M} {r0 : Nat} {H : Heap} {locs : List Loc} {ls : Array Slot} (hX : mm_X L prog_2_method_9_code 3 "LoanArrows$Copy" (some .int) 0 0 p l R s m meth c) (h : f_Co_chainEnd L.1 g r0 = some (eo, v, g')) (hP : mm_P L g H) (hF : ∀ q ∈ locs, mm_F L q.base) (hl : lv_has ls 3 [(0, .ref (L.2.1 5 r0))]) (hv_r0 : mm_lv L.1 5 r0) : W p l e R s m args below meth c H locs 0 0 (mm_Q below L s (mm_oi eo v) g') (F0 m 0 ls []) := by
  have hX0 := hX
  obtain ⟨hx, hb, hml, hown, hr, hlk, hex, hRf, hRl, hRc, hRs, hJ, hK, hst, h00⟩ := hX0
  unfold f_Co_chainEnd at h
  refine lv_aload_n hx hb d_Co_chainEnd_0 rfl (lv_at hl 0 rfl) ?_
  refine mm_get (h := 5) (i := r0) 3 hX hP hv_r0 rfl rfl uin_5 (by decide) ⟨rfl, rfl, rfl⟩ wt_84 rfl d_Co_chainEnd_1 ?_
  refine lv_istore_n hx hb d_Co_chainEnd_4 rfl hl (Nat.lt_of_lt_of_le (Nat.lt_succ_self _) (Nat.le_of_ble_eq_true rfl)) rfl (fun ls hl => ?_)
  have hl : lv_has ls 3 [(1, .int (g 5 r0 3)), (0, .ref (L.2.1 5 r0))] := hl
  refine lv_iconst (v := 0) hx hb d_Co_chainEnd_5 (by decide) ?_
  refine lv_istore_n hx hb d_Co_chainEnd_6 rfl hl (Nat.lt_of_lt_of_le (Nat.lt_succ_self _) (Nat.le_of_ble_eq_true rfl)) rfl (fun ls hl => ?_)
  have hl : lv_has ls 3 [(2, .int 0), (1, .int (g 5 r0 3)), (0, .ref (L.2.1 5 r0))] := hl
  exact w_Co_chainEnd_l7 hX _ _ _ _ _ _ _ _ h hP hF (lv_sub (l' := [(0, .ref (L.2.1 5 r0)), (1, .int (g 5 r0 3)), (2, .int 0)]) hl [2, 1, 0] rfl) hv_r0
set_option maxRecDepth 100000 in
set_option maxHeartbeats 4000000 in
theorem c_Co_chainEnd {l : Launch} {L : mm_L} {g g' : mm_M} {eo : Nat} {v : Int32} {r0 : Nat} (hv_r0 : mm_lv L.1 5 r0) (h : f_Co_chainEnd L.1 g r0 = some (eo, v, g')) : mm_C l y_Co_chainEnd prog_2_method_9_code 3 (some .int) 0 0 L [.ref (L.2.1 5 r0)] g (mm_oi eo v) g' := by
  intro p e R s m below meth c hX hP
  refine mm_enter (Nat.le_of_ble_eq_true rfl) fun ls hl => ?_
  exact w_Co_chainEnd hX h hP (fun q hq => by cases hq) (lv_sub (l' := [(0, .ref (L.2.1 5 r0))]) hl [0] rfl) hv_r0
def f_Co_arrowsEnd_b42 (n : Nat) (g : mm_M) (x2 : Int32) : Option (Nat × Int32 × mm_M) :=
  some (0, x2, g)
set_option maxRecDepth 100000 in
set_option maxHeartbeats 4000000 in
theorem w_Co_arrowsEnd_b42 {p : Program} {l : Launch} {e : Env} {R : Room} {s : State} {m : MethodId} {args : Array Value} {below : List Frame} {meth : Method} {c : Code} {L : mm_L} {eo : Nat} {v : Int32} {g' : mm_M} {g : mm_M} {x2 : Int32} {H : Heap} {locs : List Loc} {ls : Array Slot} (hX : mm_X L prog_2_method_10_code 4 "LoanArrows$Copy" (some .int) 0 0 p l R s m meth c) (h : f_Co_arrowsEnd_b42 L.1 g x2 = some (eo, v, g')) (hP : mm_P L g H) (hF : ∀ q ∈ locs, mm_F L q.base) (hl : lv_has ls 4 [(2, .int x2)]) : W p l e R s m args below meth c H locs 0 0 (mm_Q below L s (mm_oi eo v) g') (F0 m 42 ls []) := by
  have hX0 := hX
  obtain ⟨hx, hb, hml, hown, hr, hlk, hex, hRf, hRl, hRc, hRs, hJ, hK, hst, h00⟩ := hX0
  unfold f_Co_arrowsEnd_b42 at h
  refine lv_iload_n hx hb d_Co_arrowsEnd_42 rfl (lv_at hl 0 rfl) ?_
  cases h
  exact mm_iret hx hb hr hlk hP hF d_Co_arrowsEnd_43
def f_Co_arrowsEnd_l4 (n : Nat) : Nat → mm_M → Nat → Int32 → Int32 → Option (Nat × Int32 × mm_M)
  | 0, _, _, _, _ => none
  | k + 1, g, r0, x2, x3 => (if (Int32.ofNat n) ≤ x3 then f_Co_arrowsEnd_b42 n g x2 else mm_ix x2 n ((if (g 8 (12 * r0 + x2.toNatClampNeg) 2) = x2 then f_Co_arrowsEnd_b42 n g x2 else mm_ix x2 n (f_Co_arrowsEnd_l4 n k g r0 (g 8 (12 * r0 + x2.toNatClampNeg) 2) (x3 + 1)))))
set_option maxRecDepth 100000 in
set_option maxHeartbeats 4000000 in
theorem w_Co_arrowsEnd_l4 {p : Program} {l : Launch} {e : Env} {R : Room} {s : State} {m : MethodId} {args : Array Value} {below : List Frame} {meth : Method} {c : Code} {L : mm_L} {eo : Nat} {v : Int32} {g' : mm_M} (hX : mm_X L prog_2_method_10_code 4 "LoanArrows$Copy" (some .int) 0 0 p l R s m meth c) : ∀ (k : Nat) (g : mm_M) (r0 : Nat) (x2 : Int32) (x3 : Int32) (H : Heap) (locs : List Loc) (ls : Array Slot), f_Co_arrowsEnd_l4 L.1 k g r0 x2 x3 = some (eo, v, g') → mm_P L g H → (∀ q ∈ locs, mm_F L q.base) → lv_has ls 4 [(0, .ref (L.2.1 5 r0)), (2, .int x2), (3, .int x3)] → mm_lv L.1 5 r0 → W p l e R s m args below meth c H locs 0 0 (mm_Q below L s (mm_oi eo v) g') (F0 m 4 ls []) := by
  have hX0 := hX
  obtain ⟨hx, hb, hml, hown, hr, hlk, hex, hRf, hRl, hRc, hRs, hJ, hK, hst, h00⟩ := hX0
  intro k
  induction k with
  | zero =>
    intro g r0 x2 x3 H locs ls h hP hF hl hv_r0
    rw [f_Co_arrowsEnd_l4] at h
    cases h
  | succ k ih =>
    intro g r0 x2 x3 H locs ls h hP hF hl hv_r0
    rw [f_Co_arrowsEnd_l4] at h
    refine lv_iload_n hx hb d_Co_arrowsEnd_4 rfl (lv_at hl 2 rfl) ?_
    refine lv_aload_n hx hb d_Co_arrowsEnd_5 rfl (lv_at hl 0 rfl) ?_
    refine mm_get (h := 5) (i := r0) 0 hX hP hv_r0 rfl rfl uin_5 (by decide) ⟨rfl, rfl, rfl⟩ wt_80 rfl d_Co_arrowsEnd_6 ?_
    refine mm_alen (t := 3) (h := 6) (i := r0) hX hP hv_r0 rfl rfl rfl d_Co_arrowsEnd_9 ?_
    refine lv_icmp_ge (tgt := 42) hx hb d_Co_arrowsEnd_10 rfl (fun hc => ?_) (fun hc => ?_)
    · have h := mm_pos hc h
      exact w_Co_arrowsEnd_b42 hX h hP hF (lv_sub (l' := [(2, .int x2)]) hl [1] rfl)
    · have h := mm_neg hc h
      refine lv_aload_n hx hb d_Co_arrowsEnd_13 rfl (lv_at hl 0 rfl) ?_
      refine mm_get (h := 5) (i := r0) 0 hX hP hv_r0 rfl rfl uin_5 (by decide) ⟨rfl, rfl, rfl⟩ wt_80 rfl d_Co_arrowsEnd_14 ?_
      refine lv_iload_n hx hb d_Co_arrowsEnd_17 rfl (lv_at hl 1 rfl) ?_
      obtain ⟨hin1, h⟩ := mm_ix_some h
      refine mm_aald (t := 3) (h := 6) (i := r0) hX hP hv_r0 rfl rfl rfl hin1 d_Co_arrowsEnd_18 ?_
      refine mm_getN (h := 8) (i := (12 * r0 + x2.toNatClampNeg)) 2 hX hP (mm_l8 (n := L.1) hv_r0 hin1) rfl rfl uin_8 (by decide) ⟨rfl, rfl, rfl⟩ wn_58 rfl d_Co_arrowsEnd_19 ?_
      refine lv_iload_n hx hb d_Co_arrowsEnd_22 rfl (lv_at hl 1 rfl) ?_
      refine lv_icmp_eq (tgt := 42) hx hb d_Co_arrowsEnd_23 rfl (fun hc => ?_) (fun hc => ?_)
      · have h := mm_pos hc h
        exact w_Co_arrowsEnd_b42 hX h hP hF (lv_sub (l' := [(2, .int x2)]) hl [1] rfl)
      · have h := mm_neg hc h
        refine lv_aload_n hx hb d_Co_arrowsEnd_26 rfl (lv_at hl 0 rfl) ?_
        refine mm_get (h := 5) (i := r0) 0 hX hP hv_r0 rfl rfl uin_5 (by decide) ⟨rfl, rfl, rfl⟩ wt_80 rfl d_Co_arrowsEnd_27 ?_
        refine lv_iload_n hx hb d_Co_arrowsEnd_30 rfl (lv_at hl 1 rfl) ?_
        obtain ⟨hin2, h⟩ := mm_ix_some h
        refine mm_aald (t := 3) (h := 6) (i := r0) hX hP hv_r0 rfl rfl rfl hin2 d_Co_arrowsEnd_31 ?_
        refine mm_getN (h := 8) (i := (12 * r0 + x2.toNatClampNeg)) 2 hX hP (mm_l8 (n := L.1) hv_r0 hin2) rfl rfl uin_8 (by decide) ⟨rfl, rfl, rfl⟩ wn_58 rfl d_Co_arrowsEnd_32 ?_
        refine lv_istore_n hx hb d_Co_arrowsEnd_35 rfl hl (Nat.lt_of_lt_of_le (Nat.lt_succ_self _) (Nat.le_of_ble_eq_true rfl)) rfl (fun ls hl => ?_)
        have hl : lv_has ls 4 [(2, .int (g 8 (12 * r0 + x2.toNatClampNeg) 2)), (0, .ref (L.2.1 5 r0)), (3, .int x3)] := hl
        refine lv_iinc (k := 2) (v := (x3 + 1)) hx hb d_Co_arrowsEnd_36 hl rfl (congrArg (fun z => x3 + z) mm_i1) (Nat.lt_of_lt_of_le (Nat.lt_succ_self _) (Nat.le_of_ble_eq_true rfl)) rfl (fun ls hl => ?_)
        have hl : lv_has ls 4 [(3, .int (x3 + 1)), (2, .int (g 8 (12 * r0 + x2.toNatClampNeg) 2)), (0, .ref (L.2.1 5 r0))] := hl
        refine lv_goto (tgt := 4) hx hb d_Co_arrowsEnd_39 rfl ?_
        exact ih _ _ _ _ _ _ _ h hP hF (lv_sub (l' := [(0, .ref (L.2.1 5 r0)), (2, .int (g 8 (12 * r0 + x2.toNatClampNeg) 2)), (3, .int (x3 + 1))]) hl [2, 1, 0] rfl) hv_r0
def f_Co_arrowsEnd (n : Nat) (g : mm_M) (r0 : Nat) (x1 : Int32) : Option (Nat × Int32 × mm_M) :=
  f_Co_arrowsEnd_l4 n 4096 g r0 x1 0
set_option maxRecDepth 100000 in
set_option maxHeartbeats 4000000 in
theorem w_Co_arrowsEnd {p : Program} {l : Launch} {e : Env} {R : Room} {s : State} {m : MethodId} {args : Array Value} {below : List Frame} {meth : Method} {c : Code} {L : mm_L} {eo : Nat} {v : Int32} {g' : mm_M} {g : mm_M} {r0 : Nat} {x1 : Int32} {H : Heap} {locs : List Loc} {ls : Array Slot} (hX : mm_X L prog_2_method_10_code 4 "LoanArrows$Copy" (some .int) 0 0 p l R s m meth c) (h : f_Co_arrowsEnd L.1 g r0 x1 = some (eo, v, g')) (hP : mm_P L g H) (hF : ∀ q ∈ locs, mm_F L q.base) (hl : lv_has ls 4 [(0, .ref (L.2.1 5 r0)), (1, .int x1)]) (hv_r0 : mm_lv L.1 5 r0) : W p l e R s m args below meth c H locs 0 0 (mm_Q below L s (mm_oi eo v) g') (F0 m 0 ls []) := by
  have hX0 := hX
  obtain ⟨hx, hb, hml, hown, hr, hlk, hex, hRf, hRl, hRc, hRs, hJ, hK, hst, h00⟩ := hX0
  unfold f_Co_arrowsEnd at h
  refine lv_iload_n hx hb d_Co_arrowsEnd_0 rfl (lv_at hl 1 rfl) ?_
  refine lv_istore_n hx hb d_Co_arrowsEnd_1 rfl hl (Nat.lt_of_lt_of_le (Nat.lt_succ_self _) (Nat.le_of_ble_eq_true rfl)) rfl (fun ls hl => ?_)
  have hl : lv_has ls 4 [(2, .int x1), (0, .ref (L.2.1 5 r0)), (1, .int x1)] := hl
  refine lv_iconst (v := 0) hx hb d_Co_arrowsEnd_2 (by decide) ?_
  refine lv_istore_n hx hb d_Co_arrowsEnd_3 rfl hl (Nat.lt_of_lt_of_le (Nat.lt_succ_self _) (Nat.le_of_ble_eq_true rfl)) rfl (fun ls hl => ?_)
  have hl : lv_has ls 4 [(3, .int 0), (2, .int x1), (0, .ref (L.2.1 5 r0)), (1, .int x1)] := hl
  exact w_Co_arrowsEnd_l4 hX _ _ _ _ _ _ _ _ h hP hF (lv_sub (l' := [(0, .ref (L.2.1 5 r0)), (2, .int x1), (3, .int 0)]) hl [2, 1, 0] rfl) hv_r0
set_option maxRecDepth 100000 in
set_option maxHeartbeats 4000000 in
theorem c_Co_arrowsEnd {l : Launch} {L : mm_L} {g g' : mm_M} {eo : Nat} {v : Int32} {r0 : Nat} {x1 : Int32} (hv_r0 : mm_lv L.1 5 r0) (h : f_Co_arrowsEnd L.1 g r0 x1 = some (eo, v, g')) : mm_C l y_Co_arrowsEnd prog_2_method_10_code 4 (some .int) 0 0 L [.ref (L.2.1 5 r0), .int x1] g (mm_oi eo v) g' := by
  intro p e R s m below meth c hX hP
  refine mm_enter (Nat.le_of_ble_eq_true rfl) fun ls hl => ?_
  exact w_Co_arrowsEnd hX h hP (fun q hq => by cases hq) (lv_sub (l' := [(0, .ref (L.2.1 5 r0)), (1, .int x1)]) hl [0, 1] rfl) hv_r0

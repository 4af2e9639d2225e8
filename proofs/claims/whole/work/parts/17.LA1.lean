def f_LA_requirePacket_b15 (n : Nat) (g : mm_M)  : Option (Nat × Int32 × mm_M) :=
  some (1, 0, g)
set_option maxRecDepth 100000 in
set_option maxHeartbeats 4000000 in
theorem w_LA_requirePacket_b15 {p : Program} {l : Launch} {e : Env} {R : Room} {s : State} {m : MethodId} {args : Array Value} {below : List Frame} {meth : Method} {c : Code} {L : mm_L} {eo : Nat} {v : Int32} {g' : mm_M} {g : mm_M} {H : Heap} {locs : List Loc} {ls : Array Slot} (hX : mm_X L prog_1_method_27_code 2 "LoanArrows" none 6 82 p l R s m meth c) (h : f_LA_requirePacket_b15 L.1 g = some (eo, v, g')) (hP : mm_P L g H) (hF : ∀ q ∈ locs, mm_F L q.base) (hl : lv_has ls 2 []) : W p l e R s m args below meth c H locs 0 0 (mm_Q below L s (mm_ov eo v) g') (F0 m 15 ls []) := by
  have hX0 := hX
  obtain ⟨hx, hb, hml, hown, hr, hlk, hex, hRf, hRl, hRc, hRs, hJ, hK, hst, h00⟩ := hX0
  unfold f_LA_requirePacket_b15 at h
  cases h
  exact mm_throw (x := 1) (names := mm_nm) hX hP hF wt_207 wt_208 wt_12 (show ("LoanArrows", 218, "no such packet") ∈ mm_str by decide +kernel) at_LA_153 (by decide +kernel) mm_nm_fit hl.1 (by decide) (by decide) d_LA_requirePacket_15 d_LA_requirePacket_18 d_LA_requirePacket_19 d_LA_requirePacket_21 d_LA_requirePacket_24
def f_LA_requirePacket (n : Nat) (g : mm_M) (r0 : Nat) (x1 : Int32) : Option (Nat × Int32 × mm_M) :=
  (if x1 < 0 then f_LA_requirePacket_b15 n g else (if x1 < (g 10 0 1) then some (0, 0, g) else f_LA_requirePacket_b15 n g))
set_option maxRecDepth 100000 in
set_option maxHeartbeats 4000000 in
theorem w_LA_requirePacket {p : Program} {l : Launch} {e : Env} {R : Room} {s : State} {m : MethodId} {args : Array Value} {below : List Frame} {meth : Method} {c : Code} {L : mm_L} {eo : Nat} {v : Int32} {g' : mm_M} {g : mm_M} {r0 : Nat} {x1 : Int32} {H : Heap} {locs : List Loc} {ls : Array Slot} (hX : mm_X L prog_1_method_27_code 2 "LoanArrows" none 6 82 p l R s m meth c) (h : f_LA_requirePacket L.1 g r0 x1 = some (eo, v, g')) (hP : mm_P L g H) (hF : ∀ q ∈ locs, mm_F L q.base) (hl : lv_has ls 2 [(0, .ref (L.2.1 0 r0)), (1, .int x1)]) (hv_r0 : mm_lv L.1 0 r0) : W p l e R s m args below meth c H locs 0 0 (mm_Q below L s (mm_ov eo v) g') (F0 m 0 ls []) := by
  have hX0 := hX
  obtain ⟨hx, hb, hml, hown, hr, hlk, hex, hRf, hRl, hRc, hRs, hJ, hK, hst, h00⟩ := hX0
  unfold f_LA_requirePacket at h
  refine lv_iload_n hx hb d_LA_requirePacket_0 rfl (lv_at hl 1 rfl) ?_
  refine lv_if_lt (tgt := 15) hx hb d_LA_requirePacket_1 rfl (fun hc => ?_) (fun hc => ?_)
  · have h := mm_pos hc h
    exact w_LA_requirePacket_b15 hX h hP hF (lv_sub (l' := []) hl [] rfl)
  · have h := mm_neg hc h
    refine lv_iload_n hx hb d_LA_requirePacket_4 rfl (lv_at hl 1 rfl) ?_
    refine lv_aload_n hx hb d_LA_requirePacket_5 rfl (lv_at hl 0 rfl) ?_
    refine mm_get (h := 0) (i := r0) 4 hX hP hv_r0 rfl rfl uin_0 (by decide) ⟨rfl, rfl, rfl⟩ wt_160 rfl d_LA_requirePacket_6 ?_
    refine mm_getN (h := 10) (i := 0) 1 hX hP mm_ls10 rfl rfl uin_10 (by decide) ⟨rfl, rfl, rfl⟩ wn_107 rfl d_LA_requirePacket_9 ?_
    refine lv_icmp_lt (tgt := 25) hx hb d_LA_requirePacket_12 rfl (fun hc => ?_) (fun hc => ?_)
    · have h := mm_pos hc h
      cases h
      exact mm_vret hx hb hr hlk hP hF d_LA_requirePacket_25
    · have h := mm_neg hc h
      exact w_LA_requirePacket_b15 hX h hP hF (lv_sub (l' := []) hl [] rfl)
set_option maxRecDepth 100000 in
set_option maxHeartbeats 4000000 in
theorem c_LA_requirePacket {l : Launch} {L : mm_L} {g g' : mm_M} {eo : Nat} {v : Int32} {r0 : Nat} {x1 : Int32} (hv_r0 : mm_lv L.1 0 r0) (h : f_LA_requirePacket L.1 g r0 x1 = some (eo, v, g')) : mm_C l y_LA_requirePacket prog_1_method_27_code 2 none 6 82 L [.ref (L.2.1 0 r0), .int x1] g (mm_ov eo v) g' := by
  intro p e R s m below meth c hX hP
  refine mm_enter (Nat.le_of_ble_eq_true rfl) fun ls hl => ?_
  exact w_LA_requirePacket hX h hP (fun q hq => by cases hq) (lv_sub (l' := [(0, .ref (L.2.1 0 r0)), (1, .int x1)]) hl [0, 1] rfl) hv_r0
def f_LA_packet_b15 (n : Nat) (g : mm_M)  : Option (Nat × Int32 × mm_M) :=
  some (1, 0, g)
set_option maxRecDepth 100000 in
set_option maxHeartbeats 4000000 in
theorem w_LA_packet_b15 {p : Program} {l : Launch} {e : Env} {R : Room} {s : State} {m : MethodId} {args : Array Value} {below : List Frame} {meth : Method} {c : Code} {L : mm_L} {eo : Nat} {v : Int32} {g' : mm_M} {g : mm_M} {H : Heap} {locs : List Loc} {ls : Array Slot} (hX : mm_X L prog_1_method_9_code 3 "LoanArrows" (some .int) 7 103 p l R s m meth c) (h : f_LA_packet_b15 L.1 g = some (eo, v, g')) (hP : mm_P L g H) (hF : ∀ q ∈ locs, mm_F L q.base) (hl : lv_has ls 3 []) : W p l e R s m args below meth c H locs 0 0 (mm_Q below L s (mm_oi eo v) g') (F0 m 15 ls []) := by
  have hX0 := hX
  obtain ⟨hx, hb, hml, hown, hr, hlk, hex, hRf, hRl, hRc, hRs, hJ, hK, hst, h00⟩ := hX0
  unfold f_LA_packet_b15 at h
  cases h
  exact mm_throw (x := 1) (names := mm_nm) hX hP hF wt_207 wt_208 wt_12 (show ("LoanArrows", 151, "no such part of a packet") ∈ mm_str by decide +kernel) at_LA_153 (by decide +kernel) mm_nm_fit hl.1 (by decide) (by decide) d_LA_packet_15 d_LA_packet_18 d_LA_packet_19 d_LA_packet_21 d_LA_packet_24
def f_LA_packet (n : Nat) (g : mm_M) (r0 : Nat) (x1 : Int32) (x2 : Int32) : Option (Nat × Int32 × mm_M) :=
  mm_bd (f_LA_requirePacket n g r0 x1) 0 (fun z1 g2 => (if x2 < 0 then f_LA_packet_b15 n g2 else (if x2 < 6 then mm_bd (f_Po_part n g2 0 x1 x2) 0 (fun z4 g5 => some (0, z4, g5)) else f_LA_packet_b15 n g2)))
set_option maxRecDepth 100000 in
set_option maxHeartbeats 4000000 in
theorem w_LA_packet {p : Program} {l : Launch} {e : Env} {R : Room} {s : State} {m : MethodId} {args : Array Value} {below : List Frame} {meth : Method} {c : Code} {L : mm_L} {eo : Nat} {v : Int32} {g' : mm_M} {g : mm_M} {r0 : Nat} {x1 : Int32} {x2 : Int32} {H : Heap} {locs : List Loc} {ls : Array Slot} (hX : mm_X L prog_1_method_9_code 3 "LoanArrows" (some .int) 7 103 p l R s m meth c) (h : f_LA_packet L.1 g r0 x1 x2 = some (eo, v, g')) (hP : mm_P L g H) (hF : ∀ q ∈ locs, mm_F L q.base) (hl : lv_has ls 3 [(0, .ref (L.2.1 0 r0)), (1, .int x1), (2, .int x2)]) (hv_r0 : mm_lv L.1 0 r0) : W p l e R s m args below meth c H locs 0 0 (mm_Q below L s (mm_oi eo v) g') (F0 m 0 ls []) := by
  have hX0 := hX
  obtain ⟨hx, hb, hml, hown, hr, hlk, hex, hRf, hRl, hRc, hRs, hJ, hK, hst, h00⟩ := hX0
  unfold f_LA_packet at h
  refine lv_aload_n hx hb d_LA_packet_0 rfl (lv_at hl 0 rfl) ?_
  refine lv_iload_n hx hb d_LA_packet_1 rfl (lv_at hl 1 rfl) ?_
  rcases mm_bd_some h with ⟨z1, g2, hf3, h⟩ | ⟨xe, z1, g2, hf3, h⟩
  · refine mm_goR (v := none) (mm_goV (As := [.int x1]) (rest := []) hX (c_LA_requirePacket hv_r0 hf3) yw_LA_requirePacket wt_463 wt_465 ws_0_8 hP hF (mm_recv (h := 0) (i := r0) hX hP hv_r0 rfl rfl) rfl hl.1 (Nat.le_of_ble_eq_true rfl) (by decide) (by decide) hRc hRs d_LA_packet_2) hF (fun H locs hP hF _ => ?_)
    refine lv_iload_n hx hb d_LA_packet_5 rfl (lv_at hl 2 rfl) ?_
    refine lv_if_lt (tgt := 15) hx hb d_LA_packet_6 rfl (fun hc => ?_) (fun hc => ?_)
    · have h := mm_pos hc h
      exact w_LA_packet_b15 hX h hP hF (lv_sub (l' := []) hl [] rfl)
    · have h := mm_neg hc h
      refine lv_iload_n hx hb d_LA_packet_9 rfl (lv_at hl 2 rfl) ?_
      refine lv_bipush (v := 6) hx hb d_LA_packet_10 (by decide) ?_
      refine lv_icmp_lt (tgt := 25) hx hb d_LA_packet_12 rfl (fun hc => ?_) (fun hc => ?_)
      · have h := mm_pos hc h
        refine lv_aload_n hx hb d_LA_packet_25 rfl (lv_at hl 0 rfl) ?_
        refine mm_get (h := 0) (i := r0) 4 hX hP hv_r0 rfl rfl uin_0 (by decide) ⟨rfl, rfl, rfl⟩ wt_160 rfl d_LA_packet_26 ?_
        refine lv_iload_n hx hb d_LA_packet_29 rfl (lv_at hl 1 rfl) ?_
        refine lv_iload_n hx hb d_LA_packet_30 rfl (lv_at hl 2 rfl) ?_
        rcases mm_bd_some h with ⟨z4, g5, hf6, h⟩ | ⟨xe, z4, g5, hf6, h⟩
        · refine mm_goR (v := (some (.int z4))) (mm_goV (As := [.int x1, .int x2]) (rest := []) hX (c_Po_part mm_ls10 hf6) yw_Po_part wt_469 wt_470 wt_471 hP hF (mm_recv (h := 10) (i := 0) hX hP mm_ls10 rfl rfl) rfl hl.1 (Nat.le_of_ble_eq_true rfl) (by decide) (by decide) hRc hRs d_LA_packet_31) hF (fun H locs hP hF _ => ?_)
          cases h
          exact mm_iret hx hb hr hlk hP hF d_LA_packet_34
        · cases h
          exact mm_goT (x := xe + 1) (mm_goV (As := [.int x1, .int x2]) (rest := []) hX (c_Po_part mm_ls10 hf6) yw_Po_part wt_469 wt_470 wt_471 hP hF (mm_recv (h := 10) (i := 0) hX hP mm_ls10 rfl rfl) rfl hl.1 (Nat.le_of_ble_eq_true rfl) (by decide) (by decide) hRc hRs d_LA_packet_31) hF hex hlk
      · have h := mm_neg hc h
        exact w_LA_packet_b15 hX h hP hF (lv_sub (l' := []) hl [] rfl)
  · cases h
    exact mm_goT (x := xe + 1) (mm_goV (As := [.int x1]) (rest := []) hX (c_LA_requirePacket hv_r0 hf3) yw_LA_requirePacket wt_463 wt_465 ws_0_8 hP hF (mm_recv (h := 0) (i := r0) hX hP hv_r0 rfl rfl) rfl hl.1 (Nat.le_of_ble_eq_true rfl) (by decide) (by decide) hRc hRs d_LA_packet_2) hF hex hlk
set_option maxRecDepth 100000 in
set_option maxHeartbeats 4000000 in
theorem c_LA_packet {l : Launch} {L : mm_L} {g g' : mm_M} {eo : Nat} {v : Int32} {r0 : Nat} {x1 : Int32} {x2 : Int32} (hv_r0 : mm_lv L.1 0 r0) (h : f_LA_packet L.1 g r0 x1 x2 = some (eo, v, g')) : mm_C l y_LA_packet prog_1_method_9_code 3 (some .int) 7 103 L [.ref (L.2.1 0 r0), .int x1, .int x2] g (mm_oi eo v) g' := by
  intro p e R s m below meth c hX hP
  refine mm_enter (Nat.le_of_ble_eq_true rfl) fun ls hl => ?_
  exact w_LA_packet hX h hP (fun q hq => by cases hq) (lv_sub (l' := [(0, .ref (L.2.1 0 r0)), (1, .int x1), (2, .int x2)]) hl [0, 1, 2] rfl) hv_r0
def f_LA_takeFind_b72 (n : Nat) (g : mm_M)  : Option (Nat × Int32 × mm_M) :=
  some (0, 0, g)
set_option maxRecDepth 100000 in
set_option maxHeartbeats 4000000 in
theorem w_LA_takeFind_b72 {p : Program} {l : Launch} {e : Env} {R : Room} {s : State} {m : MethodId} {args : Array Value} {below : List Frame} {meth : Method} {c : Code} {L : mm_L} {eo : Nat} {v : Int32} {g' : mm_M} {g : mm_M} {H : Heap} {locs : List Loc} {ls : Array Slot} (hX : mm_X L prog_1_method_24_code 7 "LoanArrows" none 3 76 p l R s m meth c) (h : f_LA_takeFind_b72 L.1 g = some (eo, v, g')) (hP : mm_P L g H) (hF : ∀ q ∈ locs, mm_F L q.base) (hl : lv_has ls 7 []) : W p l e R s m args below meth c H locs 0 0 (mm_Q below L s (mm_ov eo v) g') (F0 m 72 ls []) := by
  have hX0 := hX
  obtain ⟨hx, hb, hml, hown, hr, hlk, hex, hRf, hRl, hRc, hRs, hJ, hK, hst, h00⟩ := hX0
  unfold f_LA_takeFind_b72 at h
  cases h
  exact mm_vret hx hb hr hlk hP hF d_LA_takeFind_72
def f_LA_takeFind (n : Nat) (g : mm_M) (r0 : Nat) (x1 : Int32) (x2 : Int32) (x3 : Int32) (x4 : Int32) : Option (Nat × Int32 × mm_M) :=
  mm_ix x3 3 (mm_ix x2 n (mm_let (mm_st g 8 (12 * x3.toNatClampNeg + x2.toNatClampNeg) 2 x1) (fun g3 => (if (g 8 (12 * x3.toNatClampNeg + x2.toNatClampNeg) 2) = x2 then mm_let (mm_st g3 8 (12 * x3.toNatClampNeg + x2.toNatClampNeg) 3 x4) (fun g5 => (if (g5 8 (12 * x3.toNatClampNeg + x2.toNatClampNeg) 4) = 4 then mm_ix x3 3 (mm_bd (f_Co_sendOn n g5 x3.toNatClampNeg x2) 0 (fun z8 g9 => f_LA_takeFind_b72 n g9)) else f_LA_takeFind_b72 n g5)) else mm_bd (f_Ma_sendLetter n g3 0 x2 (g 8 (12 * x3.toNatClampNeg + x2.toNatClampNeg) 2) x3 x4) 0 (fun z11 g12 => some (0, 0, g12))))))
set_option maxRecDepth 100000 in
set_option maxHeartbeats 4000000 in
theorem w_LA_takeFind {p : Program} {l : Launch} {e : Env} {R : Room} {s : State} {m : MethodId} {args : Array Value} {below : List Frame} {meth : Method} {c : Code} {L : mm_L} {eo : Nat} {v : Int32} {g' : mm_M} {g : mm_M} {r0 : Nat} {x1 : Int32} {x2 : Int32} {x3 : Int32} {x4 : Int32} {H : Heap} {locs : List Loc} {ls : Array Slot} (hX : mm_X L prog_1_method_24_code 7 "LoanArrows" none 3 76 p l R s m meth c) (h : f_LA_takeFind L.1 g r0 x1 x2 x3 x4 = some (eo, v, g')) (hP : mm_P L g H) (hF : ∀ q ∈ locs, mm_F L q.base) (hl : lv_has ls 7 [(0, .ref (L.2.1 0 r0)), (1, .int x1), (2, .int x2), (3, .int x3), (4, .int x4)]) (hv_r0 : mm_lv L.1 0 r0) : W p l e R s m args below meth c H locs 0 0 (mm_Q below L s (mm_ov eo v) g') (F0 m 0 ls []) := by
  have hX0 := hX
  obtain ⟨hx, hb, hml, hown, hr, hlk, hex, hRf, hRl, hRc, hRs, hJ, hK, hst, h00⟩ := hX0
  unfold f_LA_takeFind at h
  refine lv_aload_n hx hb d_LA_takeFind_0 rfl (lv_at hl 0 rfl) ?_
  refine mm_get (h := 0) (i := r0) 3 hX hP hv_r0 rfl rfl uin_0 (by decide) ⟨rfl, rfl, rfl⟩ wt_159 rfl d_LA_takeFind_1 ?_
  refine lv_iload_n hx hb d_LA_takeFind_4 rfl (lv_at hl 3 rfl) ?_
  obtain ⟨hin1, h⟩ := mm_ix_some h
  refine mm_aald (t := 2) (h := 4) (i := 0) hX hP mm_ls4 rfl rfl rfl hin1 d_LA_takeFind_5 ?_
  refine mm_getN (h := 5) (i := x3.toNatClampNeg) 0 hX hP (mm_l5 (n := L.1) hin1) rfl rfl uin_5 (by decide) ⟨rfl, rfl, rfl⟩ wn_81 rfl d_LA_takeFind_6 ?_
  refine lv_iload_n hx hb d_LA_takeFind_9 rfl (lv_at hl 2 rfl) ?_
  obtain ⟨hin2, h⟩ := mm_ix_some h
  refine mm_aald (t := 3) (h := 6) (i := x3.toNatClampNeg) hX hP (mm_l5 (n := L.1) hin1) rfl rfl rfl hin2 d_LA_takeFind_10 ?_
  refine lv_astore hx hb d_LA_takeFind_11 hl (Nat.lt_of_lt_of_le (Nat.lt_succ_self _) (Nat.le_of_ble_eq_true rfl)) rfl (fun ls hl => ?_)
  have hl : lv_has ls 7 [(5, .ref (L.2.1 8 (12 * x3.toNatClampNeg + x2.toNatClampNeg))), (0, .ref (L.2.1 0 r0)), (1, .int x1), (2, .int x2), (3, .int x3), (4, .int x4)] := hl
  refine lv_aload hx hb d_LA_takeFind_13 (lv_at hl 0 rfl) ?_
  refine mm_getN (h := 8) (i := (12 * x3.toNatClampNeg + x2.toNatClampNeg)) 2 hX hP (mm_l8 (n := L.1) (mm_l5 (n := L.1) hin1) hin2) rfl rfl uin_8 (by decide) ⟨rfl, rfl, rfl⟩ wn_59 rfl d_LA_takeFind_15 ?_
  refine lv_istore hx hb d_LA_takeFind_18 hl (Nat.lt_of_lt_of_le (Nat.lt_succ_self _) (Nat.le_of_ble_eq_true rfl)) rfl (fun ls hl => ?_)
  have hl : lv_has ls 7 [(6, .int (g 8 (12 * x3.toNatClampNeg + x2.toNatClampNeg) 2)), (5, .ref (L.2.1 8 (12 * x3.toNatClampNeg + x2.toNatClampNeg))), (0, .ref (L.2.1 0 r0)), (1, .int x1), (2, .int x2), (3, .int x3), (4, .int x4)] := hl
  refine lv_aload hx hb d_LA_takeFind_20 (lv_at hl 1 rfl) ?_
  refine lv_iload_n hx hb d_LA_takeFind_22 rfl (lv_at hl 3 rfl) ?_
  refine mm_putN (h := 8) (i := (12 * x3.toNatClampNeg + x2.toNatClampNeg)) 2 hX hP hF (mm_l8 (n := L.1) (mm_l5 (n := L.1) hin1) hin2) rfl rfl rfl uin_8 ty_8 tyok_8 nmok_8 (by decide) ⟨rfl, rfl, rfl⟩ rfl wn_59 rfl rfl rfl (Nat.le_of_ble_eq_true rfl) d_LA_takeFind_23 (fun H locs hP hF => ?_)
  obtain ⟨g3, e4, h⟩ := mm_let_ex h
  have hP : mm_P L g3 H := by rw [e4]; exact hP
  refine lv_iload hx hb d_LA_takeFind_26 (lv_at hl 0 rfl) ?_
  refine lv_iload_n hx hb d_LA_takeFind_28 rfl (lv_at hl 4 rfl) ?_
  refine lv_icmp_eq (tgt := 46) hx hb d_LA_takeFind_29 rfl (fun hc => ?_) (fun hc => ?_)
  · have h := mm_pos hc h
    refine lv_aload hx hb d_LA_takeFind_46 (lv_at hl 1 rfl) ?_
    refine lv_iload hx hb d_LA_takeFind_48 (lv_at hl 6 rfl) ?_
    refine mm_putN (h := 8) (i := (12 * x3.toNatClampNeg + x2.toNatClampNeg)) 3 hX hP hF (mm_l8 (n := L.1) (mm_l5 (n := L.1) hin1) hin2) rfl rfl rfl uin_8 ty_8 tyok_8 nmok_8 (by decide) ⟨rfl, rfl, rfl⟩ rfl wn_62 rfl rfl rfl (Nat.le_of_ble_eq_true rfl) d_LA_takeFind_50 (fun H locs hP hF => ?_)
    obtain ⟨g5, e6, h⟩ := mm_let_ex h
    have hP : mm_P L g5 H := by rw [e6]; exact hP
    refine lv_aload hx hb d_LA_takeFind_53 (lv_at hl 1 rfl) ?_
    refine mm_getN (h := 8) (i := (12 * x3.toNatClampNeg + x2.toNatClampNeg)) 4 hX hP (mm_l8 (n := L.1) (mm_l5 (n := L.1) hin1) hin2) rfl rfl uin_8 (by decide) ⟨rfl, rfl, rfl⟩ wn_65 rfl d_LA_takeFind_55 ?_
    refine lv_iconst (v := 4) hx hb d_LA_takeFind_58 (by decide) ?_
    refine lv_icmp_ne (tgt := 72) hx hb d_LA_takeFind_59 rfl (fun hc => ?_) (fun hc => ?_)
    · have h := mm_neg hc h
      exact w_LA_takeFind_b72 hX h hP hF (lv_sub (l' := []) hl [] rfl)
    · have h := mm_pos hc h
      refine lv_aload_n hx hb d_LA_takeFind_62 rfl (lv_at hl 2 rfl) ?_
      refine mm_get (h := 0) (i := r0) 3 hX hP hv_r0 rfl rfl uin_0 (by decide) ⟨rfl, rfl, rfl⟩ wt_159 rfl d_LA_takeFind_63 ?_
      refine lv_iload_n hx hb d_LA_takeFind_66 rfl (lv_at hl 5 rfl) ?_
      obtain ⟨hin7, h⟩ := mm_ix_some h
      refine mm_aald (t := 2) (h := 4) (i := 0) hX hP mm_ls4 rfl rfl rfl hin7 d_LA_takeFind_67 ?_
      refine lv_iload_n hx hb d_LA_takeFind_68 rfl (lv_at hl 4 rfl) ?_
      rcases mm_bd_some h with ⟨z8, g9, hf10, h⟩ | ⟨xe, z8, g9, hf10, h⟩
      · refine mm_goR (v := none) (mm_goV (As := [.int x2]) (rest := []) hX (c_Co_sendOn (mm_l5 (n := L.1) hin7) hf10) yw_Co_sendOn wt_424 wt_425 wt_426 hP hF (mm_recv (h := 5) (i := x3.toNatClampNeg) hX hP (mm_l5 (n := L.1) hin7) rfl rfl) rfl hl.1 (Nat.le_of_ble_eq_true rfl) (by decide) (by decide) hRc hRs d_LA_takeFind_69) hF (fun H locs hP hF _ => ?_)
        exact w_LA_takeFind_b72 hX h hP hF (lv_sub (l' := []) hl [] rfl)
      · cases h
        exact mm_goT (x := xe + 1) (mm_goV (As := [.int x2]) (rest := []) hX (c_Co_sendOn (mm_l5 (n := L.1) hin7) hf10) yw_Co_sendOn wt_424 wt_425 wt_426 hP hF (mm_recv (h := 5) (i := x3.toNatClampNeg) hX hP (mm_l5 (n := L.1) hin7) rfl rfl) rfl hl.1 (Nat.le_of_ble_eq_true rfl) (by decide) (by decide) hRc hRs d_LA_takeFind_69) hF hex hlk
  · have h := mm_neg hc h
    refine lv_aload_n hx hb d_LA_takeFind_32 rfl (lv_at hl 2 rfl) ?_
    refine mm_get (h := 0) (i := r0) 5 hX hP hv_r0 rfl rfl uin_0 (by decide) ⟨rfl, rfl, rfl⟩ wt_161 rfl d_LA_takeFind_33 ?_
    refine lv_iload_n hx hb d_LA_takeFind_36 rfl (lv_at hl 4 rfl) ?_
    refine lv_iload hx hb d_LA_takeFind_37 (lv_at hl 0 rfl) ?_
    refine lv_iload_n hx hb d_LA_takeFind_39 rfl (lv_at hl 5 rfl) ?_
    refine lv_iload hx hb d_LA_takeFind_40 (lv_at hl 6 rfl) ?_
    rcases mm_bd_some h with ⟨z11, g12, hf13, h⟩ | ⟨xe, z11, g12, hf13, h⟩
    · refine mm_goR (v := none) (mm_goV (As := [.int x2, .int (g 8 (12 * x3.toNatClampNeg + x2.toNatClampNeg) 2), .int x3, .int x4]) (rest := []) hX (c_Ma_sendLetter mm_ls12 hf13) yw_Ma_sendLetter wt_359 wt_360 wt_361 hP hF (mm_recv (h := 12) (i := 0) hX hP mm_ls12 rfl rfl) rfl hl.1 (Nat.le_of_ble_eq_true rfl) (by decide) (by decide) hRc hRs d_LA_takeFind_42) hF (fun H locs hP hF _ => ?_)
      cases h
      exact mm_vret hx hb hr hlk hP hF d_LA_takeFind_45
    · cases h
      exact mm_goT (x := xe + 1) (mm_goV (As := [.int x2, .int (g 8 (12 * x3.toNatClampNeg + x2.toNatClampNeg) 2), .int x3, .int x4]) (rest := []) hX (c_Ma_sendLetter mm_ls12 hf13) yw_Ma_sendLetter wt_359 wt_360 wt_361 hP hF (mm_recv (h := 12) (i := 0) hX hP mm_ls12 rfl rfl) rfl hl.1 (Nat.le_of_ble_eq_true rfl) (by decide) (by decide) hRc hRs d_LA_takeFind_42) hF hex hlk
set_option maxRecDepth 100000 in
set_option maxHeartbeats 4000000 in
theorem c_LA_takeFind {l : Launch} {L : mm_L} {g g' : mm_M} {eo : Nat} {v : Int32} {r0 : Nat} {x1 : Int32} {x2 : Int32} {x3 : Int32} {x4 : Int32} (hv_r0 : mm_lv L.1 0 r0) (h : f_LA_takeFind L.1 g r0 x1 x2 x3 x4 = some (eo, v, g')) : mm_C l y_LA_takeFind prog_1_method_24_code 7 none 3 76 L [.ref (L.2.1 0 r0), .int x1, .int x2, .int x3, .int x4] g (mm_ov eo v) g' := by
  intro p e R s m below meth c hX hP
  refine mm_enter (Nat.le_of_ble_eq_true rfl) fun ls hl => ?_
  exact w_LA_takeFind hX h hP (fun q hq => by cases hq) (lv_sub (l' := [(0, .ref (L.2.1 0 r0)), (1, .int x1), (2, .int x2), (3, .int x3), (4, .int x4)]) hl [0, 1, 2, 3, 4] rfl) hv_r0
def f_LA_receiveLetter_b50 (n : Nat) (g : mm_M) (t0 : Int32) : Option (Nat × Int32 × mm_M) :=
  some (0, t0, g)
set_option maxRecDepth 100000 in
set_option maxHeartbeats 4000000 in
theorem w_LA_receiveLetter_b50 {p : Program} {l : Launch} {e : Env} {R : Room} {s : State} {m : MethodId} {args : Array Value} {below : List Frame} {meth : Method} {c : Code} {L : mm_L} {eo : Nat} {v : Int32} {g' : mm_M} {g : mm_M} {t0 : Int32} {H : Heap} {locs : List Loc} {ls : Array Slot} (hX : mm_X L prog_1_method_23_code 7 "LoanArrows" (some .int) 4 102 p l R s m meth c) (h : f_LA_receiveLetter_b50 L.1 g t0 = some (eo, v, g')) (hP : mm_P L g H) (hF : ∀ q ∈ locs, mm_F L q.base) (hl : lv_has ls 7 []) : W p l e R s m args below meth c H locs 0 0 (mm_Q below L s (mm_oi eo v) g') (F0 m 50 ls [.int t0]) := by
  have hX0 := hX
  obtain ⟨hx, hb, hml, hown, hr, hlk, hex, hRf, hRl, hRc, hRs, hJ, hK, hst, h00⟩ := hX0
  unfold f_LA_receiveLetter_b50 at h
  cases h
  exact mm_iret hx hb hr hlk hP hF d_LA_receiveLetter_50
def f_LA_receiveLetter_b27 (n : Nat) (g : mm_M) (r0 : Nat) (x1 : Int32) (x2 : Int32) (x3 : Int32) (x6 : Int32) : Option (Nat × Int32 × mm_M) :=
  mm_bd (f_Po_put n g 0 1 x2 x1 x3 (-1) (-1)) 0 (fun z1 g2 => (if x6 = 0 then f_LA_receiveLetter_b50 n g2 2 else f_LA_receiveLetter_b50 n g2 1))
set_option maxRecDepth 100000 in
set_option maxHeartbeats 4000000 in
theorem w_LA_receiveLetter_b27 {p : Program} {l : Launch} {e : Env} {R : Room} {s : State} {m : MethodId} {args : Array Value} {below : List Frame} {meth : Method} {c : Code} {L : mm_L} {eo : Nat} {v : Int32} {g' : mm_M} {g : mm_M} {r0 : Nat} {x1 : Int32} {x2 : Int32} {x3 : Int32} {x6 : Int32} {H : Heap} {locs : List Loc} {ls : Array Slot} (hX : mm_X L prog_1_method_23_code 7 "LoanArrows" (some .int) 4 102 p l R s m meth c) (h : f_LA_receiveLetter_b27 L.1 g r0 x1 x2 x3 x6 = some (eo, v, g')) (hP : mm_P L g H) (hF : ∀ q ∈ locs, mm_F L q.base) (hl : lv_has ls 7 [(0, .ref (L.2.1 0 r0)), (1, .int x1), (2, .int x2), (3, .int x3), (6, .int x6)]) (hv_r0 : mm_lv L.1 0 r0) : W p l e R s m args below meth c H locs 0 0 (mm_Q below L s (mm_oi eo v) g') (F0 m 27 ls []) := by
  have hX0 := hX
  obtain ⟨hx, hb, hml, hown, hr, hlk, hex, hRf, hRl, hRc, hRs, hJ, hK, hst, h00⟩ := hX0
  unfold f_LA_receiveLetter_b27 at h
  refine lv_aload_n hx hb d_LA_receiveLetter_27 rfl (lv_at hl 0 rfl) ?_
  refine mm_get (h := 0) (i := r0) 4 hX hP hv_r0 rfl rfl uin_0 (by decide) ⟨rfl, rfl, rfl⟩ wt_160 rfl d_LA_receiveLetter_28 ?_
  refine lv_iconst (v := 1) hx hb d_LA_receiveLetter_31 (by decide) ?_
  refine lv_iload_n hx hb d_LA_receiveLetter_32 rfl (lv_at hl 2 rfl) ?_
  refine lv_iload_n hx hb d_LA_receiveLetter_33 rfl (lv_at hl 1 rfl) ?_
  refine lv_iload_n hx hb d_LA_receiveLetter_34 rfl (lv_at hl 3 rfl) ?_
  refine lv_iconst (v := -1) hx hb d_LA_receiveLetter_35 (by decide) ?_
  refine lv_iconst (v := -1) hx hb d_LA_receiveLetter_36 (by decide) ?_
  rcases mm_bd_some h with ⟨z1, g2, hf3, h⟩ | ⟨xe, z1, g2, hf3, h⟩
  · refine mm_goR (v := none) (mm_goV (As := [.int 1, .int x2, .int x1, .int x3, .int (-1), .int (-1)]) (rest := []) hX (c_Po_put mm_ls10 hf3) yw_Po_put wt_503 wt_388 wt_389 hP hF (mm_recv (h := 10) (i := 0) hX hP mm_ls10 rfl rfl) rfl hl.1 (Nat.le_of_ble_eq_true rfl) (by decide) (by decide) hRc hRs d_LA_receiveLetter_37) hF (fun H locs hP hF _ => ?_)
    refine lv_iload hx hb d_LA_receiveLetter_40 (lv_at hl 4 rfl) ?_
    refine lv_if_eq (tgt := 49) hx hb d_LA_receiveLetter_42 rfl (fun hc => ?_) (fun hc => ?_)
    · have h := mm_pos hc h
      refine lv_iconst (v := 2) hx hb d_LA_receiveLetter_49 (by decide) ?_
      exact w_LA_receiveLetter_b50 hX h hP hF (lv_sub (l' := []) hl [] rfl)
    · have h := mm_neg hc h
      refine lv_iconst (v := 1) hx hb d_LA_receiveLetter_45 (by decide) ?_
      refine lv_goto (tgt := 50) hx hb d_LA_receiveLetter_46 rfl ?_
      exact w_LA_receiveLetter_b50 hX h hP hF (lv_sub (l' := []) hl [] rfl)
  · cases h
    exact mm_goT (x := xe + 1) (mm_goV (As := [.int 1, .int x2, .int x1, .int x3, .int (-1), .int (-1)]) (rest := []) hX (c_Po_put mm_ls10 hf3) yw_Po_put wt_503 wt_388 wt_389 hP hF (mm_recv (h := 10) (i := 0) hX hP mm_ls10 rfl rfl) rfl hl.1 (Nat.le_of_ble_eq_true rfl) (by decide) (by decide) hRc hRs d_LA_receiveLetter_37) hF hex hlk
def f_LA_receiveLetter (n : Nat) (g : mm_M) (r0 : Nat) (x1 : Int32) (x2 : Int32) (x3 : Int32) (x4 : Int32) (x5 : Int32) : Option (Nat × Int32 × mm_M) :=
  mm_bd (f_Ma_takesNext n g 0 x1 x2 x3) 0 (fun z1 g2 => (if z1 = 0 then f_LA_receiveLetter_b27 n g2 r0 x1 x2 x3 z1 else mm_bd (f_LA_takeFind n g2 r0 x1 x2 x4 x5) 0 (fun z4 g5 => f_LA_receiveLetter_b27 n g5 r0 x1 x2 x3 z1)))
set_option maxRecDepth 100000 in
set_option maxHeartbeats 4000000 in
theorem w_LA_receiveLetter {p : Program} {l : Launch} {e : Env} {R : Room} {s : State} {m : MethodId} {args : Array Value} {below : List Frame} {meth : Method} {c : Code} {L : mm_L} {eo : Nat} {v : Int32} {g' : mm_M} {g : mm_M} {r0 : Nat} {x1 : Int32} {x2 : Int32} {x3 : Int32} {x4 : Int32} {x5 : Int32} {H : Heap} {locs : List Loc} {ls : Array Slot} (hX : mm_X L prog_1_method_23_code 7 "LoanArrows" (some .int) 4 102 p l R s m meth c) (h : f_LA_receiveLetter L.1 g r0 x1 x2 x3 x4 x5 = some (eo, v, g')) (hP : mm_P L g H) (hF : ∀ q ∈ locs, mm_F L q.base) (hl : lv_has ls 7 [(0, .ref (L.2.1 0 r0)), (1, .int x1), (2, .int x2), (3, .int x3), (4, .int x4), (5, .int x5)]) (hv_r0 : mm_lv L.1 0 r0) : W p l e R s m args below meth c H locs 0 0 (mm_Q below L s (mm_oi eo v) g') (F0 m 0 ls []) := by
  have hX0 := hX
  obtain ⟨hx, hb, hml, hown, hr, hlk, hex, hRf, hRl, hRc, hRs, hJ, hK, hst, h00⟩ := hX0
  unfold f_LA_receiveLetter at h
  refine lv_aload_n hx hb d_LA_receiveLetter_0 rfl (lv_at hl 0 rfl) ?_
  refine mm_get (h := 0) (i := r0) 5 hX hP hv_r0 rfl rfl uin_0 (by decide) ⟨rfl, rfl, rfl⟩ wt_161 rfl d_LA_receiveLetter_1 ?_
  refine lv_iload_n hx hb d_LA_receiveLetter_4 rfl (lv_at hl 1 rfl) ?_
  refine lv_iload_n hx hb d_LA_receiveLetter_5 rfl (lv_at hl 2 rfl) ?_
  refine lv_iload_n hx hb d_LA_receiveLetter_6 rfl (lv_at hl 3 rfl) ?_
  rcases mm_bd_some h with ⟨z1, g2, hf3, h⟩ | ⟨xe, z1, g2, hf3, h⟩
  · refine mm_goR (v := (some (.int z1))) (mm_goV (As := [.int x1, .int x2, .int x3]) (rest := []) hX (c_Ma_takesNext mm_ls12 hf3) yw_Ma_takesNext wt_491 wt_492 wt_493 hP hF (mm_recv (h := 12) (i := 0) hX hP mm_ls12 rfl rfl) rfl hl.1 (Nat.le_of_ble_eq_true rfl) (by decide) (by decide) hRc hRs d_LA_receiveLetter_7) hF (fun H locs hP hF _ => ?_)
    refine lv_istore hx hb d_LA_receiveLetter_10 hl (Nat.lt_of_lt_of_le (Nat.lt_succ_self _) (Nat.le_of_ble_eq_true rfl)) rfl (fun ls hl => ?_)
    have hl : lv_has ls 7 [(6, .int z1), (0, .ref (L.2.1 0 r0)), (1, .int x1), (2, .int x2), (3, .int x3), (4, .int x4), (5, .int x5)] := hl
    refine lv_iload hx hb d_LA_receiveLetter_12 (lv_at hl 0 rfl) ?_
    refine lv_if_eq (tgt := 27) hx hb d_LA_receiveLetter_14 rfl (fun hc => ?_) (fun hc => ?_)
    · have h := mm_pos hc h
      exact w_LA_receiveLetter_b27 hX h hP hF (lv_sub (l' := [(0, .ref (L.2.1 0 r0)), (1, .int x1), (2, .int x2), (3, .int x3), (6, .int z1)]) hl [1, 2, 3, 4, 0] rfl) hv_r0
    · have h := mm_neg hc h
      refine lv_aload_n hx hb d_LA_receiveLetter_17 rfl (lv_at hl 1 rfl) ?_
      refine lv_iload_n hx hb d_LA_receiveLetter_18 rfl (lv_at hl 2 rfl) ?_
      refine lv_iload_n hx hb d_LA_receiveLetter_19 rfl (lv_at hl 3 rfl) ?_
      refine lv_iload hx hb d_LA_receiveLetter_20 (lv_at hl 5 rfl) ?_
      refine lv_iload hx hb d_LA_receiveLetter_22 (lv_at hl 6 rfl) ?_
      rcases mm_bd_some h with ⟨z4, g5, hf6, h⟩ | ⟨xe, z4, g5, hf6, h⟩
      · refine mm_goR (v := none) (mm_goV (As := [.int x1, .int x2, .int x4, .int x5]) (rest := []) hX (c_LA_takeFind hv_r0 hf6) yw_LA_takeFind wt_499 wt_501 ws_0_10 hP hF (mm_recv (h := 0) (i := r0) hX hP hv_r0 rfl rfl) rfl hl.1 (Nat.le_of_ble_eq_true rfl) (by decide) (by decide) hRc hRs d_LA_receiveLetter_24) hF (fun H locs hP hF _ => ?_)
        exact w_LA_receiveLetter_b27 hX h hP hF (lv_sub (l' := [(0, .ref (L.2.1 0 r0)), (1, .int x1), (2, .int x2), (3, .int x3), (6, .int z1)]) hl [1, 2, 3, 4, 0] rfl) hv_r0
      · cases h
        exact mm_goT (x := xe + 1) (mm_goV (As := [.int x1, .int x2, .int x4, .int x5]) (rest := []) hX (c_LA_takeFind hv_r0 hf6) yw_LA_takeFind wt_499 wt_501 ws_0_10 hP hF (mm_recv (h := 0) (i := r0) hX hP hv_r0 rfl rfl) rfl hl.1 (Nat.le_of_ble_eq_true rfl) (by decide) (by decide) hRc hRs d_LA_receiveLetter_24) hF hex hlk
  · cases h
    exact mm_goT (x := xe + 1) (mm_goV (As := [.int x1, .int x2, .int x3]) (rest := []) hX (c_Ma_takesNext mm_ls12 hf3) yw_Ma_takesNext wt_491 wt_492 wt_493 hP hF (mm_recv (h := 12) (i := 0) hX hP mm_ls12 rfl rfl) rfl hl.1 (Nat.le_of_ble_eq_true rfl) (by decide) (by decide) hRc hRs d_LA_receiveLetter_7) hF hex hlk
set_option maxRecDepth 100000 in
set_option maxHeartbeats 4000000 in
theorem c_LA_receiveLetter {l : Launch} {L : mm_L} {g g' : mm_M} {eo : Nat} {v : Int32} {r0 : Nat} {x1 : Int32} {x2 : Int32} {x3 : Int32} {x4 : Int32} {x5 : Int32} (hv_r0 : mm_lv L.1 0 r0) (h : f_LA_receiveLetter L.1 g r0 x1 x2 x3 x4 x5 = some (eo, v, g')) : mm_C l y_LA_receiveLetter prog_1_method_23_code 7 (some .int) 4 102 L [.ref (L.2.1 0 r0), .int x1, .int x2, .int x3, .int x4, .int x5] g (mm_oi eo v) g' := by
  intro p e R s m below meth c hX hP
  refine mm_enter (Nat.le_of_ble_eq_true rfl) fun ls hl => ?_
  exact w_LA_receiveLetter hX h hP (fun q hq => by cases hq) (lv_sub (l' := [(0, .ref (L.2.1 0 r0)), (1, .int x1), (2, .int x2), (3, .int x3), (4, .int x4), (5, .int x5)]) hl [0, 1, 2, 3, 4, 5] rfl) hv_r0
def f_LA_deliver_b135 (n : Nat) (g : mm_M) (t0 : Int32) : Option (Nat × Int32 × mm_M) :=
  some (0, t0, g)
set_option maxRecDepth 100000 in
set_option maxHeartbeats 4000000 in
theorem w_LA_deliver_b135 {p : Program} {l : Launch} {e : Env} {R : Room} {s : State} {m : MethodId} {args : Array Value} {below : List Frame} {meth : Method} {c : Code} {L : mm_L} {eo : Nat} {v : Int32} {g' : mm_M} {g : mm_M} {t0 : Int32} {H : Heap} {locs : List Loc} {ls : Array Slot} (hX : mm_X L prog_1_method_10_code 8 "LoanArrows" (some .int) 7 128 p l R s m meth c) (h : f_LA_deliver_b135 L.1 g t0 = some (eo, v, g')) (hP : mm_P L g H) (hF : ∀ q ∈ locs, mm_F L q.base) (hl : lv_has ls 8 []) : W p l e R s m args below meth c H locs 0 0 (mm_Q below L s (mm_oi eo v) g') (F0 m 135 ls [.int t0]) := by
  have hX0 := hX
  obtain ⟨hx, hb, hml, hown, hr, hlk, hex, hRf, hRl, hRc, hRs, hJ, hK, hst, h00⟩ := hX0
  unfold f_LA_deliver_b135 at h
  cases h
  exact mm_iret hx hb hr hlk hP hF d_LA_deliver_135
def f_LA_deliver_b22 (n : Nat) (g : mm_M) (r0 : Nat) (x1 : Int32) (t0 : Int32) : Option (Nat × Int32 × mm_M) :=
  mm_bd (f_Po_part n g 0 x1 1) 0 (fun z1 g2 => mm_bd (f_Po_part n g2 0 x1 2) 0 (fun z4 g5 => mm_bd (f_Po_part n g5 0 x1 3) 0 (fun z7 g8 => mm_bd (f_Po_part n g8 0 x1 4) 0 (fun z10 g11 => mm_bd (f_Po_part n g11 0 x1 5) 0 (fun z13 g14 => mm_bd (f_Po_remove n g14 0 x1) 0 (fun z16 g17 => mm_ix z4 n ((if (g17 1 0 z4.toNatClampNeg) = 0 then (if t0 = 0 then mm_bd (f_Ma_acknowledged n g17 0 z4 z1 z7) 0 (fun z19 g20 => (if z19 = 0 then f_LA_deliver_b135 n g20 4 else f_LA_deliver_b135 n g20 3)) else mm_bd (f_LA_receiveLetter n g17 r0 z1 z4 z7 z10 z13) 0 (fun z22 g23 => some (0, z22, g23))) else some (0, 0, g17)))))))))
set_option maxRecDepth 100000 in
set_option maxHeartbeats 4000000 in
theorem w_LA_deliver_b22 {p : Program} {l : Launch} {e : Env} {R : Room} {s : State} {m : MethodId} {args : Array Value} {below : List Frame} {meth : Method} {c : Code} {L : mm_L} {eo : Nat} {v : Int32} {g' : mm_M} {g : mm_M} {r0 : Nat} {x1 : Int32} {t0 : Int32} {H : Heap} {locs : List Loc} {ls : Array Slot} (hX : mm_X L prog_1_method_10_code 8 "LoanArrows" (some .int) 7 128 p l R s m meth c) (h : f_LA_deliver_b22 L.1 g r0 x1 t0 = some (eo, v, g')) (hP : mm_P L g H) (hF : ∀ q ∈ locs, mm_F L q.base) (hl : lv_has ls 8 [(0, .ref (L.2.1 0 r0)), (1, .int x1)]) (hv_r0 : mm_lv L.1 0 r0) : W p l e R s m args below meth c H locs 0 0 (mm_Q below L s (mm_oi eo v) g') (F0 m 22 ls [.int t0]) := by
  have hX0 := hX
  obtain ⟨hx, hb, hml, hown, hr, hlk, hex, hRf, hRl, hRc, hRs, hJ, hK, hst, h00⟩ := hX0
  unfold f_LA_deliver_b22 at h
  refine lv_istore_n hx hb d_LA_deliver_22 rfl hl (Nat.lt_of_lt_of_le (Nat.lt_succ_self _) (Nat.le_of_ble_eq_true rfl)) rfl (fun ls hl => ?_)
  have hl : lv_has ls 8 [(2, .int t0), (0, .ref (L.2.1 0 r0)), (1, .int x1)] := hl
  refine lv_aload_n hx hb d_LA_deliver_23 rfl (lv_at hl 1 rfl) ?_
  refine mm_get (h := 0) (i := r0) 4 hX hP hv_r0 rfl rfl uin_0 (by decide) ⟨rfl, rfl, rfl⟩ wt_160 rfl d_LA_deliver_24 ?_
  refine lv_iload_n hx hb d_LA_deliver_27 rfl (lv_at hl 2 rfl) ?_
  refine lv_iconst (v := 1) hx hb d_LA_deliver_28 (by decide) ?_
  rcases mm_bd_some h with ⟨z1, g2, hf3, h⟩ | ⟨xe, z1, g2, hf3, h⟩
  · refine mm_goR (v := (some (.int z1))) (mm_goV (As := [.int x1, .int 1]) (rest := []) hX (c_Po_part mm_ls10 hf3) yw_Po_part wt_469 wt_470 wt_471 hP hF (mm_recv (h := 10) (i := 0) hX hP mm_ls10 rfl rfl) rfl hl.1 (Nat.le_of_ble_eq_true rfl) (by decide) (by decide) hRc hRs d_LA_deliver_29) hF (fun H locs hP hF _ => ?_)
    refine lv_istore_n hx hb d_LA_deliver_32 rfl hl (Nat.lt_of_lt_of_le (Nat.lt_succ_self _) (Nat.le_of_ble_eq_true rfl)) rfl (fun ls hl => ?_)
    have hl : lv_has ls 8 [(3, .int z1), (2, .int t0), (0, .ref (L.2.1 0 r0)), (1, .int x1)] := hl
    refine lv_aload_n hx hb d_LA_deliver_33 rfl (lv_at hl 2 rfl) ?_
    refine mm_get (h := 0) (i := r0) 4 hX hP hv_r0 rfl rfl uin_0 (by decide) ⟨rfl, rfl, rfl⟩ wt_160 rfl d_LA_deliver_34 ?_
    refine lv_iload_n hx hb d_LA_deliver_37 rfl (lv_at hl 3 rfl) ?_
    refine lv_iconst (v := 2) hx hb d_LA_deliver_38 (by decide) ?_
    rcases mm_bd_some h with ⟨z4, g5, hf6, h⟩ | ⟨xe, z4, g5, hf6, h⟩
    · refine mm_goR (v := (some (.int z4))) (mm_goV (As := [.int x1, .int 2]) (rest := []) hX (c_Po_part mm_ls10 hf6) yw_Po_part wt_469 wt_470 wt_471 hP hF (mm_recv (h := 10) (i := 0) hX hP mm_ls10 rfl rfl) rfl hl.1 (Nat.le_of_ble_eq_true rfl) (by decide) (by decide) hRc hRs d_LA_deliver_39) hF (fun H locs hP hF _ => ?_)
      refine lv_istore hx hb d_LA_deliver_42 hl (Nat.lt_of_lt_of_le (Nat.lt_succ_self _) (Nat.le_of_ble_eq_true rfl)) rfl (fun ls hl => ?_)
      have hl : lv_has ls 8 [(4, .int z4), (3, .int z1), (2, .int t0), (0, .ref (L.2.1 0 r0)), (1, .int x1)] := hl
      refine lv_aload_n hx hb d_LA_deliver_44 rfl (lv_at hl 3 rfl) ?_
      refine mm_get (h := 0) (i := r0) 4 hX hP hv_r0 rfl rfl uin_0 (by decide) ⟨rfl, rfl, rfl⟩ wt_160 rfl d_LA_deliver_45 ?_
      refine lv_iload_n hx hb d_LA_deliver_48 rfl (lv_at hl 4 rfl) ?_
      refine lv_iconst (v := 3) hx hb d_LA_deliver_49 (by decide) ?_
      rcases mm_bd_some h with ⟨z7, g8, hf9, h⟩ | ⟨xe, z7, g8, hf9, h⟩
      · refine mm_goR (v := (some (.int z7))) (mm_goV (As := [.int x1, .int 3]) (rest := []) hX (c_Po_part mm_ls10 hf9) yw_Po_part wt_469 wt_470 wt_471 hP hF (mm_recv (h := 10) (i := 0) hX hP mm_ls10 rfl rfl) rfl hl.1 (Nat.le_of_ble_eq_true rfl) (by decide) (by decide) hRc hRs d_LA_deliver_50) hF (fun H locs hP hF _ => ?_)
        refine lv_istore hx hb d_LA_deliver_53 hl (Nat.lt_of_lt_of_le (Nat.lt_succ_self _) (Nat.le_of_ble_eq_true rfl)) rfl (fun ls hl => ?_)
        have hl : lv_has ls 8 [(5, .int z7), (4, .int z4), (3, .int z1), (2, .int t0), (0, .ref (L.2.1 0 r0)), (1, .int x1)] := hl
        refine lv_aload_n hx hb d_LA_deliver_55 rfl (lv_at hl 4 rfl) ?_
        refine mm_get (h := 0) (i := r0) 4 hX hP hv_r0 rfl rfl uin_0 (by decide) ⟨rfl, rfl, rfl⟩ wt_160 rfl d_LA_deliver_56 ?_
        refine lv_iload_n hx hb d_LA_deliver_59 rfl (lv_at hl 5 rfl) ?_
        refine lv_iconst (v := 4) hx hb d_LA_deliver_60 (by decide) ?_
        rcases mm_bd_some h with ⟨z10, g11, hf12, h⟩ | ⟨xe, z10, g11, hf12, h⟩
        · refine mm_goR (v := (some (.int z10))) (mm_goV (As := [.int x1, .int 4]) (rest := []) hX (c_Po_part mm_ls10 hf12) yw_Po_part wt_469 wt_470 wt_471 hP hF (mm_recv (h := 10) (i := 0) hX hP mm_ls10 rfl rfl) rfl hl.1 (Nat.le_of_ble_eq_true rfl) (by decide) (by decide) hRc hRs d_LA_deliver_61) hF (fun H locs hP hF _ => ?_)
          refine lv_istore hx hb d_LA_deliver_64 hl (Nat.lt_of_lt_of_le (Nat.lt_succ_self _) (Nat.le_of_ble_eq_true rfl)) rfl (fun ls hl => ?_)
          have hl : lv_has ls 8 [(6, .int z10), (5, .int z7), (4, .int z4), (3, .int z1), (2, .int t0), (0, .ref (L.2.1 0 r0)), (1, .int x1)] := hl
          refine lv_aload_n hx hb d_LA_deliver_66 rfl (lv_at hl 5 rfl) ?_
          refine mm_get (h := 0) (i := r0) 4 hX hP hv_r0 rfl rfl uin_0 (by decide) ⟨rfl, rfl, rfl⟩ wt_160 rfl d_LA_deliver_67 ?_
          refine lv_iload_n hx hb d_LA_deliver_70 rfl (lv_at hl 6 rfl) ?_
          refine lv_iconst (v := 5) hx hb d_LA_deliver_71 (by decide) ?_
          rcases mm_bd_some h with ⟨z13, g14, hf15, h⟩ | ⟨xe, z13, g14, hf15, h⟩
          · refine mm_goR (v := (some (.int z13))) (mm_goV (As := [.int x1, .int 5]) (rest := []) hX (c_Po_part mm_ls10 hf15) yw_Po_part wt_469 wt_470 wt_471 hP hF (mm_recv (h := 10) (i := 0) hX hP mm_ls10 rfl rfl) rfl hl.1 (Nat.le_of_ble_eq_true rfl) (by decide) (by decide) hRc hRs d_LA_deliver_72) hF (fun H locs hP hF _ => ?_)
            refine lv_istore hx hb d_LA_deliver_75 hl (Nat.lt_of_lt_of_le (Nat.lt_succ_self _) (Nat.le_of_ble_eq_true rfl)) rfl (fun ls hl => ?_)
            have hl : lv_has ls 8 [(7, .int z13), (6, .int z10), (5, .int z7), (4, .int z4), (3, .int z1), (2, .int t0), (0, .ref (L.2.1 0 r0)), (1, .int x1)] := hl
            refine lv_aload_n hx hb d_LA_deliver_77 rfl (lv_at hl 6 rfl) ?_
            refine mm_get (h := 0) (i := r0) 4 hX hP hv_r0 rfl rfl uin_0 (by decide) ⟨rfl, rfl, rfl⟩ wt_160 rfl d_LA_deliver_78 ?_
            refine lv_iload_n hx hb d_LA_deliver_81 rfl (lv_at hl 7 rfl) ?_
            rcases mm_bd_some h with ⟨z16, g17, hf18, h⟩ | ⟨xe, z16, g17, hf18, h⟩
            · refine mm_goR (v := none) (mm_goV (As := [.int x1]) (rest := []) hX (c_Po_remove mm_ls10 hf18) yw_Po_remove wt_480 wt_481 wt_482 hP hF (mm_recv (h := 10) (i := 0) hX hP mm_ls10 rfl rfl) rfl hl.1 (Nat.le_of_ble_eq_true rfl) (by decide) (by decide) hRc hRs d_LA_deliver_82) hF (fun H locs hP hF _ => ?_)
              refine lv_aload_n hx hb d_LA_deliver_85 rfl (lv_at hl 6 rfl) ?_
              refine mm_get (h := 0) (i := r0) 1 hX hP hv_r0 rfl rfl uin_0 (by decide) ⟨rfl, rfl, rfl⟩ wt_157 rfl d_LA_deliver_86 ?_
              refine lv_iload hx hb d_LA_deliver_89 (lv_at hl 3 rfl) ?_
              obtain ⟨hin, h⟩ := mm_ix_some h
              refine mm_zald (h := 1) (i := 0) hX hP mm_ls1 (fun _ => rfl) rfl hin d_LA_deliver_91 ?_
              refine lv_if_eq (tgt := 97) hx hb d_LA_deliver_92 rfl (fun hc => ?_) (fun hc => ?_)
              · have h := mm_pos hc h
                refine lv_iload_n hx hb d_LA_deliver_97 rfl (lv_at hl 5 rfl) ?_
                refine lv_if_eq (tgt := 115) hx hb d_LA_deliver_98 rfl (fun hc => ?_) (fun hc => ?_)
                · have h := mm_pos hc h
                  refine lv_aload_n hx hb d_LA_deliver_115 rfl (lv_at hl 6 rfl) ?_
                  refine mm_get (h := 0) (i := r0) 5 hX hP hv_r0 rfl rfl uin_0 (by decide) ⟨rfl, rfl, rfl⟩ wt_161 rfl d_LA_deliver_116 ?_
                  refine lv_iload hx hb d_LA_deliver_119 (lv_at hl 3 rfl) ?_
                  refine lv_iload_n hx hb d_LA_deliver_121 rfl (lv_at hl 4 rfl) ?_
                  refine lv_iload hx hb d_LA_deliver_122 (lv_at hl 2 rfl) ?_
                  rcases mm_bd_some h with ⟨z19, g20, hf21, h⟩ | ⟨xe, z19, g20, hf21, h⟩
                  · refine mm_goR (v := (some (.int z19))) (mm_goV (As := [.int z4, .int z1, .int z7]) (rest := []) hX (c_Ma_acknowledged mm_ls12 hf21) yw_Ma_acknowledged wt_504 wt_505 wt_506 hP hF (mm_recv (h := 12) (i := 0) hX hP mm_ls12 rfl rfl) rfl hl.1 (Nat.le_of_ble_eq_true rfl) (by decide) (by decide) hRc hRs d_LA_deliver_124) hF (fun H locs hP hF _ => ?_)
                    refine lv_if_eq (tgt := 134) hx hb d_LA_deliver_127 rfl (fun hc => ?_) (fun hc => ?_)
                    · have h := mm_pos hc h
                      refine lv_iconst (v := 4) hx hb d_LA_deliver_134 (by decide) ?_
                      exact w_LA_deliver_b135 hX h hP hF (lv_sub (l' := []) hl [] rfl)
                    · have h := mm_neg hc h
                      refine lv_iconst (v := 3) hx hb d_LA_deliver_130 (by decide) ?_
                      refine lv_goto (tgt := 135) hx hb d_LA_deliver_131 rfl ?_
                      exact w_LA_deliver_b135 hX h hP hF (lv_sub (l' := []) hl [] rfl)
                  · cases h
                    exact mm_goT (x := xe + 1) (mm_goV (As := [.int z4, .int z1, .int z7]) (rest := []) hX (c_Ma_acknowledged mm_ls12 hf21) yw_Ma_acknowledged wt_504 wt_505 wt_506 hP hF (mm_recv (h := 12) (i := 0) hX hP mm_ls12 rfl rfl) rfl hl.1 (Nat.le_of_ble_eq_true rfl) (by decide) (by decide) hRc hRs d_LA_deliver_124) hF hex hlk
                · have h := mm_neg hc h
                  refine lv_aload_n hx hb d_LA_deliver_101 rfl (lv_at hl 6 rfl) ?_
                  refine lv_iload_n hx hb d_LA_deliver_102 rfl (lv_at hl 4 rfl) ?_
                  refine lv_iload hx hb d_LA_deliver_103 (lv_at hl 3 rfl) ?_
                  refine lv_iload hx hb d_LA_deliver_105 (lv_at hl 2 rfl) ?_
                  refine lv_iload hx hb d_LA_deliver_107 (lv_at hl 1 rfl) ?_
                  refine lv_iload hx hb d_LA_deliver_109 (lv_at hl 0 rfl) ?_
                  rcases mm_bd_some h with ⟨z22, g23, hf24, h⟩ | ⟨xe, z22, g23, hf24, h⟩
                  · refine mm_goR (v := (some (.int z22))) (mm_goV (As := [.int z1, .int z4, .int z7, .int z10, .int z13]) (rest := []) hX (c_LA_receiveLetter hv_r0 hf24) yw_LA_receiveLetter wt_487 wt_489 ws_0_9 hP hF (mm_recv (h := 0) (i := r0) hX hP hv_r0 rfl rfl) rfl hl.1 (Nat.le_of_ble_eq_true rfl) (by decide) (by decide) hRc hRs d_LA_deliver_111) hF (fun H locs hP hF _ => ?_)
                    cases h
                    exact mm_iret hx hb hr hlk hP hF d_LA_deliver_114
                  · cases h
                    exact mm_goT (x := xe + 1) (mm_goV (As := [.int z1, .int z4, .int z7, .int z10, .int z13]) (rest := []) hX (c_LA_receiveLetter hv_r0 hf24) yw_LA_receiveLetter wt_487 wt_489 ws_0_9 hP hF (mm_recv (h := 0) (i := r0) hX hP hv_r0 rfl rfl) rfl hl.1 (Nat.le_of_ble_eq_true rfl) (by decide) (by decide) hRc hRs d_LA_deliver_111) hF hex hlk
              · have h := mm_neg hc h
                refine lv_iconst (v := 0) hx hb d_LA_deliver_95 (by decide) ?_
                cases h
                exact mm_iret hx hb hr hlk hP hF d_LA_deliver_96
            · cases h
              exact mm_goT (x := xe + 1) (mm_goV (As := [.int x1]) (rest := []) hX (c_Po_remove mm_ls10 hf18) yw_Po_remove wt_480 wt_481 wt_482 hP hF (mm_recv (h := 10) (i := 0) hX hP mm_ls10 rfl rfl) rfl hl.1 (Nat.le_of_ble_eq_true rfl) (by decide) (by decide) hRc hRs d_LA_deliver_82) hF hex hlk
          · cases h
            exact mm_goT (x := xe + 1) (mm_goV (As := [.int x1, .int 5]) (rest := []) hX (c_Po_part mm_ls10 hf15) yw_Po_part wt_469 wt_470 wt_471 hP hF (mm_recv (h := 10) (i := 0) hX hP mm_ls10 rfl rfl) rfl hl.1 (Nat.le_of_ble_eq_true rfl) (by decide) (by decide) hRc hRs d_LA_deliver_72) hF hex hlk
        · cases h
          exact mm_goT (x := xe + 1) (mm_goV (As := [.int x1, .int 4]) (rest := []) hX (c_Po_part mm_ls10 hf12) yw_Po_part wt_469 wt_470 wt_471 hP hF (mm_recv (h := 10) (i := 0) hX hP mm_ls10 rfl rfl) rfl hl.1 (Nat.le_of_ble_eq_true rfl) (by decide) (by decide) hRc hRs d_LA_deliver_61) hF hex hlk
      · cases h
        exact mm_goT (x := xe + 1) (mm_goV (As := [.int x1, .int 3]) (rest := []) hX (c_Po_part mm_ls10 hf9) yw_Po_part wt_469 wt_470 wt_471 hP hF (mm_recv (h := 10) (i := 0) hX hP mm_ls10 rfl rfl) rfl hl.1 (Nat.le_of_ble_eq_true rfl) (by decide) (by decide) hRc hRs d_LA_deliver_50) hF hex hlk
    · cases h
      exact mm_goT (x := xe + 1) (mm_goV (As := [.int x1, .int 2]) (rest := []) hX (c_Po_part mm_ls10 hf6) yw_Po_part wt_469 wt_470 wt_471 hP hF (mm_recv (h := 10) (i := 0) hX hP mm_ls10 rfl rfl) rfl hl.1 (Nat.le_of_ble_eq_true rfl) (by decide) (by decide) hRc hRs d_LA_deliver_39) hF hex hlk
  · cases h
    exact mm_goT (x := xe + 1) (mm_goV (As := [.int x1, .int 1]) (rest := []) hX (c_Po_part mm_ls10 hf3) yw_Po_part wt_469 wt_470 wt_471 hP hF (mm_recv (h := 10) (i := 0) hX hP mm_ls10 rfl rfl) rfl hl.1 (Nat.le_of_ble_eq_true rfl) (by decide) (by decide) hRc hRs d_LA_deliver_29) hF hex hlk
def f_LA_deliver (n : Nat) (g : mm_M) (r0 : Nat) (x1 : Int32) : Option (Nat × Int32 × mm_M) :=
  mm_bd (f_LA_requirePacket n g r0 x1) 0 (fun z1 g2 => mm_bd (f_Po_part n g2 0 x1 0) 0 (fun z4 g5 => (if z4 = 0 then f_LA_deliver_b22 n g5 r0 x1 1 else f_LA_deliver_b22 n g5 r0 x1 0)))
set_option maxRecDepth 100000 in
set_option maxHeartbeats 4000000 in
theorem w_LA_deliver {p : Program} {l : Launch} {e : Env} {R : Room} {s : State} {m : MethodId} {args : Array Value} {below : List Frame} {meth : Method} {c : Code} {L : mm_L} {eo : Nat} {v : Int32} {g' : mm_M} {g : mm_M} {r0 : Nat} {x1 : Int32} {H : Heap} {locs : List Loc} {ls : Array Slot} (hX : mm_X L prog_1_method_10_code 8 "LoanArrows" (some .int) 7 128 p l R s m meth c) (h : f_LA_deliver L.1 g r0 x1 = some (eo, v, g')) (hP : mm_P L g H) (hF : ∀ q ∈ locs, mm_F L q.base) (hl : lv_has ls 8 [(0, .ref (L.2.1 0 r0)), (1, .int x1)]) (hv_r0 : mm_lv L.1 0 r0) : W p l e R s m args below meth c H locs 0 0 (mm_Q below L s (mm_oi eo v) g') (F0 m 0 ls []) := by
  have hX0 := hX
  obtain ⟨hx, hb, hml, hown, hr, hlk, hex, hRf, hRl, hRc, hRs, hJ, hK, hst, h00⟩ := hX0
  unfold f_LA_deliver at h
  refine lv_aload_n hx hb d_LA_deliver_0 rfl (lv_at hl 0 rfl) ?_
  refine lv_iload_n hx hb d_LA_deliver_1 rfl (lv_at hl 1 rfl) ?_
  rcases mm_bd_some h with ⟨z1, g2, hf3, h⟩ | ⟨xe, z1, g2, hf3, h⟩
  · refine mm_goR (v := none) (mm_goV (As := [.int x1]) (rest := []) hX (c_LA_requirePacket hv_r0 hf3) yw_LA_requirePacket wt_463 wt_465 ws_0_8 hP hF (mm_recv (h := 0) (i := r0) hX hP hv_r0 rfl rfl) rfl hl.1 (Nat.le_of_ble_eq_true rfl) (by decide) (by decide) hRc hRs d_LA_deliver_2) hF (fun H locs hP hF _ => ?_)
    refine lv_aload_n hx hb d_LA_deliver_5 rfl (lv_at hl 0 rfl) ?_
    refine mm_get (h := 0) (i := r0) 4 hX hP hv_r0 rfl rfl uin_0 (by decide) ⟨rfl, rfl, rfl⟩ wt_160 rfl d_LA_deliver_6 ?_
    refine lv_iload_n hx hb d_LA_deliver_9 rfl (lv_at hl 1 rfl) ?_
    refine lv_iconst (v := 0) hx hb d_LA_deliver_10 (by decide) ?_
    rcases mm_bd_some h with ⟨z4, g5, hf6, h⟩ | ⟨xe, z4, g5, hf6, h⟩
    · refine mm_goR (v := (some (.int z4))) (mm_goV (As := [.int x1, .int 0]) (rest := []) hX (c_Po_part mm_ls10 hf6) yw_Po_part wt_469 wt_470 wt_471 hP hF (mm_recv (h := 10) (i := 0) hX hP mm_ls10 rfl rfl) rfl hl.1 (Nat.le_of_ble_eq_true rfl) (by decide) (by decide) hRc hRs d_LA_deliver_11) hF (fun H locs hP hF _ => ?_)
      refine lv_if_ne (tgt := 21) hx hb d_LA_deliver_14 rfl (fun hc => ?_) (fun hc => ?_)
      · have h := mm_neg hc h
        refine lv_iconst (v := 0) hx hb d_LA_deliver_21 (by decide) ?_
        exact w_LA_deliver_b22 hX h hP hF (lv_sub (l' := [(0, .ref (L.2.1 0 r0)), (1, .int x1)]) hl [0, 1] rfl) hv_r0
      · have h := mm_pos hc h
        refine lv_iconst (v := 1) hx hb d_LA_deliver_17 (by decide) ?_
        refine lv_goto (tgt := 22) hx hb d_LA_deliver_18 rfl ?_
        exact w_LA_deliver_b22 hX h hP hF (lv_sub (l' := [(0, .ref (L.2.1 0 r0)), (1, .int x1)]) hl [0, 1] rfl) hv_r0
    · cases h
      exact mm_goT (x := xe + 1) (mm_goV (As := [.int x1, .int 0]) (rest := []) hX (c_Po_part mm_ls10 hf6) yw_Po_part wt_469 wt_470 wt_471 hP hF (mm_recv (h := 10) (i := 0) hX hP mm_ls10 rfl rfl) rfl hl.1 (Nat.le_of_ble_eq_true rfl) (by decide) (by decide) hRc hRs d_LA_deliver_11) hF hex hlk
  · cases h
    exact mm_goT (x := xe + 1) (mm_goV (As := [.int x1]) (rest := []) hX (c_LA_requirePacket hv_r0 hf3) yw_LA_requirePacket wt_463 wt_465 ws_0_8 hP hF (mm_recv (h := 0) (i := r0) hX hP hv_r0 rfl rfl) rfl hl.1 (Nat.le_of_ble_eq_true rfl) (by decide) (by decide) hRc hRs d_LA_deliver_2) hF hex hlk
set_option maxRecDepth 100000 in
set_option maxHeartbeats 4000000 in
theorem c_LA_deliver {l : Launch} {L : mm_L} {g g' : mm_M} {eo : Nat} {v : Int32} {r0 : Nat} {x1 : Int32} (hv_r0 : mm_lv L.1 0 r0) (h : f_LA_deliver L.1 g r0 x1 = some (eo, v, g')) : mm_C l y_LA_deliver prog_1_method_10_code 8 (some .int) 7 128 L [.ref (L.2.1 0 r0), .int x1] g (mm_oi eo v) g' := by
  intro p e R s m below meth c hX hP
  refine mm_enter (Nat.le_of_ble_eq_true rfl) fun ls hl => ?_
  exact w_LA_deliver hX h hP (fun q hq => by cases hq) (lv_sub (l' := [(0, .ref (L.2.1 0 r0)), (1, .int x1)]) hl [0, 1] rfl) hv_r0
def f_LA_drop (n : Nat) (g : mm_M) (r0 : Nat) (x1 : Int32) : Option (Nat × Int32 × mm_M) :=
  mm_bd (f_LA_requirePacket n g r0 x1) 0 (fun z1 g2 => mm_bd (f_Po_remove n g2 0 x1) 0 (fun z4 g5 => some (0, (g5 10 0 1), g5)))
set_option maxRecDepth 100000 in
set_option maxHeartbeats 4000000 in
theorem w_LA_drop {p : Program} {l : Launch} {e : Env} {R : Room} {s : State} {m : MethodId} {args : Array Value} {below : List Frame} {meth : Method} {c : Code} {L : mm_L} {eo : Nat} {v : Int32} {g' : mm_M} {g : mm_M} {r0 : Nat} {x1 : Int32} {H : Heap} {locs : List Loc} {ls : Array Slot} (hX : mm_X L prog_1_method_11_code 2 "LoanArrows" (some .int) 7 103 p l R s m meth c) (h : f_LA_drop L.1 g r0 x1 = some (eo, v, g')) (hP : mm_P L g H) (hF : ∀ q ∈ locs, mm_F L q.base) (hl : lv_has ls 2 [(0, .ref (L.2.1 0 r0)), (1, .int x1)]) (hv_r0 : mm_lv L.1 0 r0) : W p l e R s m args below meth c H locs 0 0 (mm_Q below L s (mm_oi eo v) g') (F0 m 0 ls []) := by
  have hX0 := hX
  obtain ⟨hx, hb, hml, hown, hr, hlk, hex, hRf, hRl, hRc, hRs, hJ, hK, hst, h00⟩ := hX0
  unfold f_LA_drop at h
  refine lv_aload_n hx hb d_LA_drop_0 rfl (lv_at hl 0 rfl) ?_
  refine lv_iload_n hx hb d_LA_drop_1 rfl (lv_at hl 1 rfl) ?_
  rcases mm_bd_some h with ⟨z1, g2, hf3, h⟩ | ⟨xe, z1, g2, hf3, h⟩
  · refine mm_goR (v := none) (mm_goV (As := [.int x1]) (rest := []) hX (c_LA_requirePacket hv_r0 hf3) yw_LA_requirePacket wt_463 wt_465 ws_0_8 hP hF (mm_recv (h := 0) (i := r0) hX hP hv_r0 rfl rfl) rfl hl.1 (Nat.le_of_ble_eq_true rfl) (by decide) (by decide) hRc hRs d_LA_drop_2) hF (fun H locs hP hF _ => ?_)
    refine lv_aload_n hx hb d_LA_drop_5 rfl (lv_at hl 0 rfl) ?_
    refine mm_get (h := 0) (i := r0) 4 hX hP hv_r0 rfl rfl uin_0 (by decide) ⟨rfl, rfl, rfl⟩ wt_160 rfl d_LA_drop_6 ?_
    refine lv_iload_n hx hb d_LA_drop_9 rfl (lv_at hl 1 rfl) ?_
    rcases mm_bd_some h with ⟨z4, g5, hf6, h⟩ | ⟨xe, z4, g5, hf6, h⟩
    · refine mm_goR (v := none) (mm_goV (As := [.int x1]) (rest := []) hX (c_Po_remove mm_ls10 hf6) yw_Po_remove wt_480 wt_481 wt_482 hP hF (mm_recv (h := 10) (i := 0) hX hP mm_ls10 rfl rfl) rfl hl.1 (Nat.le_of_ble_eq_true rfl) (by decide) (by decide) hRc hRs d_LA_drop_10) hF (fun H locs hP hF _ => ?_)
      refine lv_aload_n hx hb d_LA_drop_13 rfl (lv_at hl 0 rfl) ?_
      refine mm_get (h := 0) (i := r0) 4 hX hP hv_r0 rfl rfl uin_0 (by decide) ⟨rfl, rfl, rfl⟩ wt_160 rfl d_LA_drop_14 ?_
      refine mm_getN (h := 10) (i := 0) 1 hX hP mm_ls10 rfl rfl uin_10 (by decide) ⟨rfl, rfl, rfl⟩ wn_107 rfl d_LA_drop_17 ?_
      cases h
      exact mm_iret hx hb hr hlk hP hF d_LA_drop_20
    · cases h
      exact mm_goT (x := xe + 1) (mm_goV (As := [.int x1]) (rest := []) hX (c_Po_remove mm_ls10 hf6) yw_Po_remove wt_480 wt_481 wt_482 hP hF (mm_recv (h := 10) (i := 0) hX hP mm_ls10 rfl rfl) rfl hl.1 (Nat.le_of_ble_eq_true rfl) (by decide) (by decide) hRc hRs d_LA_drop_10) hF hex hlk
  · cases h
    exact mm_goT (x := xe + 1) (mm_goV (As := [.int x1]) (rest := []) hX (c_LA_requirePacket hv_r0 hf3) yw_LA_requirePacket wt_463 wt_465 ws_0_8 hP hF (mm_recv (h := 0) (i := r0) hX hP hv_r0 rfl rfl) rfl hl.1 (Nat.le_of_ble_eq_true rfl) (by decide) (by decide) hRc hRs d_LA_drop_2) hF hex hlk
set_option maxRecDepth 100000 in
set_option maxHeartbeats 4000000 in
theorem c_LA_drop {l : Launch} {L : mm_L} {g g' : mm_M} {eo : Nat} {v : Int32} {r0 : Nat} {x1 : Int32} (hv_r0 : mm_lv L.1 0 r0) (h : f_LA_drop L.1 g r0 x1 = some (eo, v, g')) : mm_C l y_LA_drop prog_1_method_11_code 2 (some .int) 7 103 L [.ref (L.2.1 0 r0), .int x1] g (mm_oi eo v) g' := by
  intro p e R s m below meth c hX hP
  refine mm_enter (Nat.le_of_ble_eq_true rfl) fun ls hl => ?_
  exact w_LA_drop hX h hP (fun q hq => by cases hq) (lv_sub (l' := [(0, .ref (L.2.1 0 r0)), (1, .int x1)]) hl [0, 1] rfl) hv_r0
def f_LA_twin (n : Nat) (g : mm_M) (r0 : Nat) (x1 : Int32) : Option (Nat × Int32 × mm_M) :=
  mm_bd (f_LA_requirePacket n g r0 x1) 0 (fun z1 g2 => mm_bd (f_Po_putAgain n g2 0 x1) 0 (fun z4 g5 => mm_nz z4 (some (0, z4, g5))))
set_option maxRecDepth 100000 in
set_option maxHeartbeats 4000000 in
theorem w_LA_twin {p : Program} {l : Launch} {e : Env} {R : Room} {s : State} {m : MethodId} {args : Array Value} {below : List Frame} {meth : Method} {c : Code} {L : mm_L} {eo : Nat} {v : Int32} {g' : mm_M} {g : mm_M} {r0 : Nat} {x1 : Int32} {H : Heap} {locs : List Loc} {ls : Array Slot} (hX : mm_X L prog_1_method_12_code 2 "LoanArrows" (some .boolean) 7 103 p l R s m meth c) (h : f_LA_twin L.1 g r0 x1 = some (eo, v, g')) (hP : mm_P L g H) (hF : ∀ q ∈ locs, mm_F L q.base) (hl : lv_has ls 2 [(0, .ref (L.2.1 0 r0)), (1, .int x1)]) (hv_r0 : mm_lv L.1 0 r0) : W p l e R s m args below meth c H locs 0 0 (mm_Q below L s (mm_oi eo v) g') (F0 m 0 ls []) := by
  have hX0 := hX
  obtain ⟨hx, hb, hml, hown, hr, hlk, hex, hRf, hRl, hRc, hRs, hJ, hK, hst, h00⟩ := hX0
  unfold f_LA_twin at h
  refine lv_aload_n hx hb d_LA_twin_0 rfl (lv_at hl 0 rfl) ?_
  refine lv_iload_n hx hb d_LA_twin_1 rfl (lv_at hl 1 rfl) ?_
  rcases mm_bd_some h with ⟨z1, g2, hf3, h⟩ | ⟨xe, z1, g2, hf3, h⟩
  · refine mm_goR (v := none) (mm_goV (As := [.int x1]) (rest := []) hX (c_LA_requirePacket hv_r0 hf3) yw_LA_requirePacket wt_463 wt_465 ws_0_8 hP hF (mm_recv (h := 0) (i := r0) hX hP hv_r0 rfl rfl) rfl hl.1 (Nat.le_of_ble_eq_true rfl) (by decide) (by decide) hRc hRs d_LA_twin_2) hF (fun H locs hP hF _ => ?_)
    refine lv_aload_n hx hb d_LA_twin_5 rfl (lv_at hl 0 rfl) ?_
    refine mm_get (h := 0) (i := r0) 4 hX hP hv_r0 rfl rfl uin_0 (by decide) ⟨rfl, rfl, rfl⟩ wt_160 rfl d_LA_twin_6 ?_
    refine lv_iload_n hx hb d_LA_twin_9 rfl (lv_at hl 1 rfl) ?_
    rcases mm_bd_some h with ⟨z4, g5, hf6, h⟩ | ⟨xe, z4, g5, hf6, h⟩
    · refine mm_goR (v := (some (.int z4))) (mm_goV (As := [.int x1]) (rest := []) hX (c_Po_putAgain mm_ls10 hf6) yw_Po_putAgain wt_527 wt_528 wt_529 hP hF (mm_recv (h := 10) (i := 0) hX hP mm_ls10 rfl rfl) rfl hl.1 (Nat.le_of_ble_eq_true rfl) (by decide) (by decide) hRc hRs d_LA_twin_10) hF (fun H locs hP hF _ => ?_)
      obtain ⟨hn, h⟩ := mm_nz_some h
      cases h
      exact mm_zret hx hb hr hn hlk hP hF d_LA_twin_13
    · cases h
      exact mm_goT (x := xe + 1) (mm_goV (As := [.int x1]) (rest := []) hX (c_Po_putAgain mm_ls10 hf6) yw_Po_putAgain wt_527 wt_528 wt_529 hP hF (mm_recv (h := 10) (i := 0) hX hP mm_ls10 rfl rfl) rfl hl.1 (Nat.le_of_ble_eq_true rfl) (by decide) (by decide) hRc hRs d_LA_twin_10) hF hex hlk
  · cases h
    exact mm_goT (x := xe + 1) (mm_goV (As := [.int x1]) (rest := []) hX (c_LA_requirePacket hv_r0 hf3) yw_LA_requirePacket wt_463 wt_465 ws_0_8 hP hF (mm_recv (h := 0) (i := r0) hX hP hv_r0 rfl rfl) rfl hl.1 (Nat.le_of_ble_eq_true rfl) (by decide) (by decide) hRc hRs d_LA_twin_2) hF hex hlk
set_option maxRecDepth 100000 in
set_option maxHeartbeats 4000000 in
theorem c_LA_twin {l : Launch} {L : mm_L} {g g' : mm_M} {eo : Nat} {v : Int32} {r0 : Nat} {x1 : Int32} (hv_r0 : mm_lv L.1 0 r0) (h : f_LA_twin L.1 g r0 x1 = some (eo, v, g')) : mm_C l y_LA_twin prog_1_method_12_code 2 (some .boolean) 7 103 L [.ref (L.2.1 0 r0), .int x1] g (mm_oi eo v) g' := by
  intro p e R s m below meth c hX hP
  refine mm_enter (Nat.le_of_ble_eq_true rfl) fun ls hl => ?_
  exact w_LA_twin hX h hP (fun q hq => by cases hq) (lv_sub (l' := [(0, .ref (L.2.1 0 r0)), (1, .int x1)]) hl [0, 1] rfl) hv_r0
def f_LA_crash (n : Nat) (g : mm_M) (r0 : Nat) (x1 : Int32) : Option (Nat × Int32 × mm_M) :=
  mm_bd (f_LA_requireLibrary n g r0 x1) 0 (fun z1 g2 => mm_bd (f_LA_requireUp n g2 r0 x1) 0 (fun z4 g5 => mm_ix x1 n (mm_let (mm_st g5 1 0 x1.toNatClampNeg (vp_nar .boolean 1)) (fun g7 => some (0, 0, g7)))))
set_option maxRecDepth 100000 in
set_option maxHeartbeats 4000000 in
theorem w_LA_crash {p : Program} {l : Launch} {e : Env} {R : Room} {s : State} {m : MethodId} {args : Array Value} {below : List Frame} {meth : Method} {c : Code} {L : mm_L} {eo : Nat} {v : Int32} {g' : mm_M} {g : mm_M} {r0 : Nat} {x1 : Int32} {H : Heap} {locs : List Loc} {ls : Array Slot} (hX : mm_X L prog_1_method_13_code 2 "LoanArrows" none 7 103 p l R s m meth c) (h : f_LA_crash L.1 g r0 x1 = some (eo, v, g')) (hP : mm_P L g H) (hF : ∀ q ∈ locs, mm_F L q.base) (hl : lv_has ls 2 [(0, .ref (L.2.1 0 r0)), (1, .int x1)]) (hv_r0 : mm_lv L.1 0 r0) : W p l e R s m args below meth c H locs 0 0 (mm_Q below L s (mm_ov eo v) g') (F0 m 0 ls []) := by
  have hX0 := hX
  obtain ⟨hx, hb, hml, hown, hr, hlk, hex, hRf, hRl, hRc, hRs, hJ, hK, hst, h00⟩ := hX0
  unfold f_LA_crash at h
  refine lv_aload_n hx hb d_LA_crash_0 rfl (lv_at hl 0 rfl) ?_
  refine lv_iload_n hx hb d_LA_crash_1 rfl (lv_at hl 1 rfl) ?_
  rcases mm_bd_some h with ⟨z1, g2, hf3, h⟩ | ⟨xe, z1, g2, hf3, h⟩
  · refine mm_goR (v := none) (mm_goV (As := [.int x1]) (rest := []) hX (c_LA_requireLibrary hv_r0 hf3) yw_LA_requireLibrary wt_275 wt_277 ws_0_2 hP hF (mm_recv (h := 0) (i := r0) hX hP hv_r0 rfl rfl) rfl hl.1 (Nat.le_of_ble_eq_true rfl) (by decide) (by decide) hRc hRs d_LA_crash_2) hF (fun H locs hP hF _ => ?_)
    refine lv_aload_n hx hb d_LA_crash_5 rfl (lv_at hl 0 rfl) ?_
    refine lv_iload_n hx hb d_LA_crash_6 rfl (lv_at hl 1 rfl) ?_
    rcases mm_bd_some h with ⟨z4, g5, hf6, h⟩ | ⟨xe, z4, g5, hf6, h⟩
    · refine mm_goR (v := none) (mm_goV (As := [.int x1]) (rest := []) hX (c_LA_requireUp hv_r0 hf6) yw_LA_requireUp wt_337 wt_339 ws_0_4 hP hF (mm_recv (h := 0) (i := r0) hX hP hv_r0 rfl rfl) rfl hl.1 (Nat.le_of_ble_eq_true rfl) (by decide) (by decide) hRc hRs d_LA_crash_7) hF (fun H locs hP hF _ => ?_)
      refine lv_aload_n hx hb d_LA_crash_10 rfl (lv_at hl 0 rfl) ?_
      refine mm_get (h := 0) (i := r0) 1 hX hP hv_r0 rfl rfl uin_0 (by decide) ⟨rfl, rfl, rfl⟩ wt_157 rfl d_LA_crash_11 ?_
      refine lv_iload_n hx hb d_LA_crash_14 rfl (lv_at hl 1 rfl) ?_
      refine lv_iconst (v := 1) hx hb d_LA_crash_15 (by decide) ?_
      obtain ⟨hin, h⟩ := mm_ix_some h
      refine mm_zast (h := 1) (i := 0) hX hP hF mm_ls1 (fun _ => rfl) rfl hin d_LA_crash_16 (fun H locs hP hF => ?_)
      obtain ⟨g7, e8, h⟩ := mm_let_ex h
      have hP : mm_P L g7 H := by rw [e8]; exact hP
      cases h
      exact mm_vret hx hb hr hlk hP hF d_LA_crash_17
    · cases h
      exact mm_goT (x := xe + 1) (mm_goV (As := [.int x1]) (rest := []) hX (c_LA_requireUp hv_r0 hf6) yw_LA_requireUp wt_337 wt_339 ws_0_4 hP hF (mm_recv (h := 0) (i := r0) hX hP hv_r0 rfl rfl) rfl hl.1 (Nat.le_of_ble_eq_true rfl) (by decide) (by decide) hRc hRs d_LA_crash_7) hF hex hlk
  · cases h
    exact mm_goT (x := xe + 1) (mm_goV (As := [.int x1]) (rest := []) hX (c_LA_requireLibrary hv_r0 hf3) yw_LA_requireLibrary wt_275 wt_277 ws_0_2 hP hF (mm_recv (h := 0) (i := r0) hX hP hv_r0 rfl rfl) rfl hl.1 (Nat.le_of_ble_eq_true rfl) (by decide) (by decide) hRc hRs d_LA_crash_2) hF hex hlk
set_option maxRecDepth 100000 in
set_option maxHeartbeats 4000000 in
theorem c_LA_crash {l : Launch} {L : mm_L} {g g' : mm_M} {eo : Nat} {v : Int32} {r0 : Nat} {x1 : Int32} (hv_r0 : mm_lv L.1 0 r0) (h : f_LA_crash L.1 g r0 x1 = some (eo, v, g')) : mm_C l y_LA_crash prog_1_method_13_code 2 none 7 103 L [.ref (L.2.1 0 r0), .int x1] g (mm_ov eo v) g' := by
  intro p e R s m below meth c hX hP
  refine mm_enter (Nat.le_of_ble_eq_true rfl) fun ls hl => ?_
  exact w_LA_crash hX h hP (fun q hq => by cases hq) (lv_sub (l' := [(0, .ref (L.2.1 0 r0)), (1, .int x1)]) hl [0, 1] rfl) hv_r0
def f_LA_restart (n : Nat) (g : mm_M) (r0 : Nat) (x1 : Int32) : Option (Nat × Int32 × mm_M) :=
  mm_bd (f_LA_requireLibrary n g r0 x1) 0 (fun z1 g2 => mm_ix x1 n ((if (g2 1 0 x1.toNatClampNeg) = 0 then some (3, 0, g2) else mm_ix x1 n (mm_let (mm_st g2 1 0 x1.toNatClampNeg (vp_nar .boolean 0)) (fun g4 => mm_bd (f_Ma_repeatFirstLetters n g4 0 x1) 0 (fun z6 g7 => some (0, z6, g7)))))))
set_option maxRecDepth 100000 in
set_option maxHeartbeats 4000000 in
theorem w_LA_restart {p : Program} {l : Launch} {e : Env} {R : Room} {s : State} {m : MethodId} {args : Array Value} {below : List Frame} {meth : Method} {c : Code} {L : mm_L} {eo : Nat} {v : Int32} {g' : mm_M} {g : mm_M} {r0 : Nat} {x1 : Int32} {H : Heap} {locs : List Loc} {ls : Array Slot} (hX : mm_X L prog_1_method_14_code 2 "LoanArrows" (some .int) 7 103 p l R s m meth c) (h : f_LA_restart L.1 g r0 x1 = some (eo, v, g')) (hP : mm_P L g H) (hF : ∀ q ∈ locs, mm_F L q.base) (hl : lv_has ls 2 [(0, .ref (L.2.1 0 r0)), (1, .int x1)]) (hv_r0 : mm_lv L.1 0 r0) : W p l e R s m args below meth c H locs 0 0 (mm_Q below L s (mm_oi eo v) g') (F0 m 0 ls []) := by
  have hX0 := hX
  obtain ⟨hx, hb, hml, hown, hr, hlk, hex, hRf, hRl, hRc, hRs, hJ, hK, hst, h00⟩ := hX0
  unfold f_LA_restart at h
  refine lv_aload_n hx hb d_LA_restart_0 rfl (lv_at hl 0 rfl) ?_
  refine lv_iload_n hx hb d_LA_restart_1 rfl (lv_at hl 1 rfl) ?_
  rcases mm_bd_some h with ⟨z1, g2, hf3, h⟩ | ⟨xe, z1, g2, hf3, h⟩
  · refine mm_goR (v := none) (mm_goV (As := [.int x1]) (rest := []) hX (c_LA_requireLibrary hv_r0 hf3) yw_LA_requireLibrary wt_275 wt_277 ws_0_2 hP hF (mm_recv (h := 0) (i := r0) hX hP hv_r0 rfl rfl) rfl hl.1 (Nat.le_of_ble_eq_true rfl) (by decide) (by decide) hRc hRs d_LA_restart_2) hF (fun H locs hP hF _ => ?_)
    refine lv_aload_n hx hb d_LA_restart_5 rfl (lv_at hl 0 rfl) ?_
    refine mm_get (h := 0) (i := r0) 1 hX hP hv_r0 rfl rfl uin_0 (by decide) ⟨rfl, rfl, rfl⟩ wt_157 rfl d_LA_restart_6 ?_
    refine lv_iload_n hx hb d_LA_restart_9 rfl (lv_at hl 1 rfl) ?_
    obtain ⟨hin, h⟩ := mm_ix_some h
    refine mm_zald (h := 1) (i := 0) hX hP mm_ls1 (fun _ => rfl) rfl hin d_LA_restart_10 ?_
    refine lv_if_ne (tgt := 24) hx hb d_LA_restart_11 rfl (fun hc => ?_) (fun hc => ?_)
    · have h := mm_neg hc h
      refine lv_aload_n hx hb d_LA_restart_24 rfl (lv_at hl 0 rfl) ?_
      refine mm_get (h := 0) (i := r0) 1 hX hP hv_r0 rfl rfl uin_0 (by decide) ⟨rfl, rfl, rfl⟩ wt_157 rfl d_LA_restart_25 ?_
      refine lv_iload_n hx hb d_LA_restart_28 rfl (lv_at hl 1 rfl) ?_
      refine lv_iconst (v := 0) hx hb d_LA_restart_29 (by decide) ?_
      obtain ⟨hin, h⟩ := mm_ix_some h
      refine mm_zast (h := 1) (i := 0) hX hP hF mm_ls1 (fun _ => rfl) rfl hin d_LA_restart_30 (fun H locs hP hF => ?_)
      obtain ⟨g4, e5, h⟩ := mm_let_ex h
      have hP : mm_P L g4 H := by rw [e5]; exact hP
      refine lv_aload_n hx hb d_LA_restart_31 rfl (lv_at hl 0 rfl) ?_
      refine mm_get (h := 0) (i := r0) 5 hX hP hv_r0 rfl rfl uin_0 (by decide) ⟨rfl, rfl, rfl⟩ wt_161 rfl d_LA_restart_32 ?_
      refine lv_iload_n hx hb d_LA_restart_35 rfl (lv_at hl 1 rfl) ?_
      rcases mm_bd_some h with ⟨z6, g7, hf8, h⟩ | ⟨xe, z6, g7, hf8, h⟩
      · refine mm_goR (v := (some (.int z6))) (mm_goV (As := [.int x1]) (rest := []) hX (c_Ma_repeatFirstLetters mm_ls12 hf8) yw_Ma_repeatFirstLetters wt_447 wt_448 wt_449 hP hF (mm_recv (h := 12) (i := 0) hX hP mm_ls12 rfl rfl) rfl hl.1 (Nat.le_of_ble_eq_true rfl) (by decide) (by decide) hRc hRs d_LA_restart_36) hF (fun H locs hP hF _ => ?_)
        cases h
        exact mm_iret hx hb hr hlk hP hF d_LA_restart_39
      · cases h
        exact mm_goT (x := xe + 1) (mm_goV (As := [.int x1]) (rest := []) hX (c_Ma_repeatFirstLetters mm_ls12 hf8) yw_Ma_repeatFirstLetters wt_447 wt_448 wt_449 hP hF (mm_recv (h := 12) (i := 0) hX hP mm_ls12 rfl rfl) rfl hl.1 (Nat.le_of_ble_eq_true rfl) (by decide) (by decide) hRc hRs d_LA_restart_36) hF hex hlk
    · have h := mm_pos hc h
      cases h
      exact mm_throw (x := 3) (names := mm_nm) hX hP hF wt_284 wt_285 wt_13 (show ("LoanArrows", 172, "the library is up") ∈ mm_str by decide +kernel) at_LA_65 (by decide +kernel) mm_nm_fit hl.1 (by decide) (by decide) d_LA_restart_14 d_LA_restart_17 d_LA_restart_18 d_LA_restart_20 d_LA_restart_23
  · cases h
    exact mm_goT (x := xe + 1) (mm_goV (As := [.int x1]) (rest := []) hX (c_LA_requireLibrary hv_r0 hf3) yw_LA_requireLibrary wt_275 wt_277 ws_0_2 hP hF (mm_recv (h := 0) (i := r0) hX hP hv_r0 rfl rfl) rfl hl.1 (Nat.le_of_ble_eq_true rfl) (by decide) (by decide) hRc hRs d_LA_restart_2) hF hex hlk
set_option maxRecDepth 100000 in
set_option maxHeartbeats 4000000 in
theorem c_LA_restart {l : Launch} {L : mm_L} {g g' : mm_M} {eo : Nat} {v : Int32} {r0 : Nat} {x1 : Int32} (hv_r0 : mm_lv L.1 0 r0) (h : f_LA_restart L.1 g r0 x1 = some (eo, v, g')) : mm_C l y_LA_restart prog_1_method_14_code 2 (some .int) 7 103 L [.ref (L.2.1 0 r0), .int x1] g (mm_oi eo v) g' := by
  intro p e R s m below meth c hX hP
  refine mm_enter (Nat.le_of_ble_eq_true rfl) fun ls hl => ?_
  exact w_LA_restart hX h hP (fun q hq => by cases hq) (lv_sub (l' := [(0, .ref (L.2.1 0 r0)), (1, .int x1)]) hl [0, 1] rfl) hv_r0
def f_LA_of1_b19 (n : Nat) (g : mm_M)  : Option (Nat × Int32 × mm_M) :=
  some (1, 0, g)
set_option maxRecDepth 100000 in
set_option maxHeartbeats 4000000 in
theorem w_LA_of1_b19 {p : Program} {l : Launch} {e : Env} {R : Room} {s : State} {m : MethodId} {args : Array Value} {below : List Frame} {meth : Method} {c : Code} {L : mm_L} {eo : Nat} {v : Int32} {g' : mm_M} {g : mm_M} {H : Heap} {locs : List Loc} {ls : Array Slot} (hX : mm_X L prog_1_method_15_code 5 "LoanArrows" (some .int) 7 103 p l R s m meth c) (h : f_LA_of1_b19 L.1 g = some (eo, v, g')) (hP : mm_P L g H) (hF : ∀ q ∈ locs, mm_F L q.base) (hl : lv_has ls 5 []) : W p l e R s m args below meth c H locs 0 0 (mm_Q below L s (mm_oi eo v) g') (F0 m 19 ls []) := by
  have hX0 := hX
  obtain ⟨hx, hb, hml, hown, hr, hlk, hex, hRf, hRl, hRc, hRs, hJ, hK, hst, h00⟩ := hX0
  unfold f_LA_of1_b19 at h
  cases h
  exact mm_throw (x := 1) (names := mm_nm) hX hP hF wt_207 wt_208 wt_12 (show ("LoanArrows", 174, "no such fact of a library") ∈ mm_str by decide +kernel) at_LA_153 (by decide +kernel) mm_nm_fit hl.1 (by decide) (by decide) d_LA_of1_19 d_LA_of1_22 d_LA_of1_23 d_LA_of1_25 d_LA_of1_28
def f_LA_of1 (n : Nat) (g : mm_M) (r0 : Nat) (x1 : Int32) (x2 : Int32) (x3 : Int32) : Option (Nat × Int32 × mm_M) :=
  mm_bd (f_LA_requireLibrary n g r0 x1) 0 (fun z1 g2 => mm_bd (f_LA_requireCopy n g2 x2) 0 (fun z4 g5 => (if x3 < 0 then f_LA_of1_b19 n g5 else (if x3 < 5 then mm_ix x2 3 (mm_bd (f_Co_isPlaced n g5 x2.toNatClampNeg) 0 (fun z8 g9 => (if z8 = 0 then some (0, (-1), g9) else mm_ix x2 3 (mm_ix x1 n ((if x3 = 0 then some (0, (g9 8 (12 * x2.toNatClampNeg + x1.toNatClampNeg) 2), g9) else (if x3 = 1 then some (0, (g9 8 (12 * x2.toNatClampNeg + x1.toNatClampNeg) 3), g9) else (if x3 = 2 then some (0, (g9 8 (12 * x2.toNatClampNeg + x1.toNatClampNeg) 4), g9) else (if x3 = 3 then some (0, (g9 8 (12 * x2.toNatClampNeg + x1.toNatClampNeg) 1), g9) else some (0, (g9 8 (12 * x2.toNatClampNeg + x1.toNatClampNeg) 5), g9)))))))))) else f_LA_of1_b19 n g5))))
set_option maxRecDepth 100000 in
set_option maxHeartbeats 4000000 in
theorem w_LA_of1 {p : Program} {l : Launch} {e : Env} {R : Room} {s : State} {m : MethodId} {args : Array Value} {below : List Frame} {meth : Method} {c : Code} {L : mm_L} {eo : Nat} {v : Int32} {g' : mm_M} {g : mm_M} {r0 : Nat} {x1 : Int32} {x2 : Int32} {x3 : Int32} {H : Heap} {locs : List Loc} {ls : Array Slot} (hX : mm_X L prog_1_method_15_code 5 "LoanArrows" (some .int) 7 103 p l R s m meth c) (h : f_LA_of1 L.1 g r0 x1 x2 x3 = some (eo, v, g')) (hP : mm_P L g H) (hF : ∀ q ∈ locs, mm_F L q.base) (hl : lv_has ls 5 [(0, .ref (L.2.1 0 r0)), (1, .int x1), (2, .int x2), (3, .int x3)]) (hv_r0 : mm_lv L.1 0 r0) : W p l e R s m args below meth c H locs 0 0 (mm_Q below L s (mm_oi eo v) g') (F0 m 0 ls []) := by
  have hX0 := hX
  obtain ⟨hx, hb, hml, hown, hr, hlk, hex, hRf, hRl, hRc, hRs, hJ, hK, hst, h00⟩ := hX0
  unfold f_LA_of1 at h
  refine lv_aload_n hx hb d_LA_of1_0 rfl (lv_at hl 0 rfl) ?_
  refine lv_iload_n hx hb d_LA_of1_1 rfl (lv_at hl 1 rfl) ?_
  rcases mm_bd_some h with ⟨z1, g2, hf3, h⟩ | ⟨xe, z1, g2, hf3, h⟩
  · refine mm_goR (v := none) (mm_goV (As := [.int x1]) (rest := []) hX (c_LA_requireLibrary hv_r0 hf3) yw_LA_requireLibrary wt_275 wt_277 ws_0_2 hP hF (mm_recv (h := 0) (i := r0) hX hP hv_r0 rfl rfl) rfl hl.1 (Nat.le_of_ble_eq_true rfl) (by decide) (by decide) hRc hRs d_LA_of1_2) hF (fun H locs hP hF _ => ?_)
    refine lv_aload_n hx hb d_LA_of1_5 rfl (lv_at hl 0 rfl) ?_
    refine lv_iload_n hx hb d_LA_of1_6 rfl (lv_at hl 2 rfl) ?_
    rcases mm_bd_some h with ⟨z4, g5, hf6, h⟩ | ⟨xe, z4, g5, hf6, h⟩
    · refine mm_goR (v := none) (mm_goV (As := [.int x2]) (rest := []) hX (c_LA_requireCopy hv_r0 hf6) yw_LA_requireCopy wt_203 wt_205 ws_0_0 hP hF (mm_recv (h := 0) (i := r0) hX hP hv_r0 rfl rfl) rfl hl.1 (Nat.le_of_ble_eq_true rfl) (by decide) (by decide) hRc hRs d_LA_of1_7) hF (fun H locs hP hF _ => ?_)
      refine lv_iload_n hx hb d_LA_of1_10 rfl (lv_at hl 3 rfl) ?_
      refine lv_if_lt (tgt := 19) hx hb d_LA_of1_11 rfl (fun hc => ?_) (fun hc => ?_)
      · have h := mm_pos hc h
        exact w_LA_of1_b19 hX h hP hF (lv_sub (l' := []) hl [] rfl)
      · have h := mm_neg hc h
        refine lv_iload_n hx hb d_LA_of1_14 rfl (lv_at hl 3 rfl) ?_
        refine lv_iconst (v := 5) hx hb d_LA_of1_15 (by decide) ?_
        refine lv_icmp_lt (tgt := 29) hx hb d_LA_of1_16 rfl (fun hc => ?_) (fun hc => ?_)
        · have h := mm_pos hc h
          refine lv_aload_n hx hb d_LA_of1_29 rfl (lv_at hl 0 rfl) ?_
          refine mm_get (h := 0) (i := r0) 3 hX hP hv_r0 rfl rfl uin_0 (by decide) ⟨rfl, rfl, rfl⟩ wt_159 rfl d_LA_of1_30 ?_
          refine lv_iload_n hx hb d_LA_of1_33 rfl (lv_at hl 2 rfl) ?_
          obtain ⟨hin7, h⟩ := mm_ix_some h
          refine mm_aald (t := 2) (h := 4) (i := 0) hX hP mm_ls4 rfl rfl rfl hin7 d_LA_of1_34 ?_
          rcases mm_bd_some h with ⟨z8, g9, hf10, h⟩ | ⟨xe, z8, g9, hf10, h⟩
          · refine mm_goR (v := (some (.int z8))) (mm_goV (As := []) (rest := []) hX (c_Co_isPlaced (mm_l5 (n := L.1) hin7) hf10) yw_Co_isPlaced wt_280 wt_281 wt_282 hP hF (mm_recv (h := 5) (i := x2.toNatClampNeg) hX hP (mm_l5 (n := L.1) hin7) rfl rfl) rfl hl.1 (Nat.le_of_ble_eq_true rfl) (by decide) (by decide) hRc hRs d_LA_of1_35) hF (fun H locs hP hF _ => ?_)
            refine lv_if_ne (tgt := 43) hx hb d_LA_of1_38 rfl (fun hc => ?_) (fun hc => ?_)
            · have h := mm_neg hc h
              refine lv_aload_n hx hb d_LA_of1_43 rfl (lv_at hl 0 rfl) ?_
              refine mm_get (h := 0) (i := r0) 3 hX hP hv_r0 rfl rfl uin_0 (by decide) ⟨rfl, rfl, rfl⟩ wt_159 rfl d_LA_of1_44 ?_
              refine lv_iload_n hx hb d_LA_of1_47 rfl (lv_at hl 2 rfl) ?_
              obtain ⟨hin11, h⟩ := mm_ix_some h
              refine mm_aald (t := 2) (h := 4) (i := 0) hX hP mm_ls4 rfl rfl rfl hin11 d_LA_of1_48 ?_
              refine mm_getN (h := 5) (i := x2.toNatClampNeg) 0 hX hP (mm_l5 (n := L.1) hin11) rfl rfl uin_5 (by decide) ⟨rfl, rfl, rfl⟩ wn_81 rfl d_LA_of1_49 ?_
              refine lv_iload_n hx hb d_LA_of1_52 rfl (lv_at hl 1 rfl) ?_
              obtain ⟨hin12, h⟩ := mm_ix_some h
              refine mm_aald (t := 3) (h := 6) (i := x2.toNatClampNeg) hX hP (mm_l5 (n := L.1) hin11) rfl rfl rfl hin12 d_LA_of1_53 ?_
              refine lv_astore hx hb d_LA_of1_54 hl (Nat.lt_of_lt_of_le (Nat.lt_succ_self _) (Nat.le_of_ble_eq_true rfl)) rfl (fun ls hl => ?_)
              have hl : lv_has ls 5 [(4, .ref (L.2.1 8 (12 * x2.toNatClampNeg + x1.toNatClampNeg))), (0, .ref (L.2.1 0 r0)), (1, .int x1), (2, .int x2), (3, .int x3)] := hl
              refine lv_iload_n hx hb d_LA_of1_56 rfl (lv_at hl 4 rfl) ?_
              by_cases hc0 : x3 = 0
              · have h := mm_pos hc0 h
                refine lv_tableIn (off := 31) (tgt := 88) hx hb d_LA_of1_57 (by rw [hc0]; decide) (by rw [hc0]; decide) (by rw [hc0]; rfl) rfl ?_
                refine lv_aload hx hb d_LA_of1_88 (lv_at hl 0 rfl) ?_
                refine mm_getN (h := 8) (i := (12 * x2.toNatClampNeg + x1.toNatClampNeg)) 2 hX hP (mm_l8 (n := L.1) (mm_l5 (n := L.1) hin11) hin12) rfl rfl uin_8 (by decide) ⟨rfl, rfl, rfl⟩ wn_59 rfl d_LA_of1_90 ?_
                cases h
                exact mm_iret hx hb hr hlk hP hF d_LA_of1_93
              have h := mm_neg hc0 h
              by_cases hc1 : x3 = 1
              · have h := mm_pos hc1 h
                refine lv_tableIn (off := 37) (tgt := 94) hx hb d_LA_of1_57 (by rw [hc1]; decide) (by rw [hc1]; decide) (by rw [hc1]; rfl) rfl ?_
                refine lv_aload hx hb d_LA_of1_94 (lv_at hl 0 rfl) ?_
                refine mm_getN (h := 8) (i := (12 * x2.toNatClampNeg + x1.toNatClampNeg)) 3 hX hP (mm_l8 (n := L.1) (mm_l5 (n := L.1) hin11) hin12) rfl rfl uin_8 (by decide) ⟨rfl, rfl, rfl⟩ wn_62 rfl d_LA_of1_96 ?_
                cases h
                exact mm_iret hx hb hr hlk hP hF d_LA_of1_99
              have h := mm_neg hc1 h
              by_cases hc2 : x3 = 2
              · have h := mm_pos hc2 h
                refine lv_tableIn (off := 43) (tgt := 100) hx hb d_LA_of1_57 (by rw [hc2]; decide) (by rw [hc2]; decide) (by rw [hc2]; rfl) rfl ?_
                refine lv_aload hx hb d_LA_of1_100 (lv_at hl 0 rfl) ?_
                refine mm_getN (h := 8) (i := (12 * x2.toNatClampNeg + x1.toNatClampNeg)) 4 hX hP (mm_l8 (n := L.1) (mm_l5 (n := L.1) hin11) hin12) rfl rfl uin_8 (by decide) ⟨rfl, rfl, rfl⟩ wn_65 rfl d_LA_of1_102 ?_
                cases h
                exact mm_iret hx hb hr hlk hP hF d_LA_of1_105
              have h := mm_neg hc2 h
              by_cases hc3 : x3 = 3
              · have h := mm_pos hc3 h
                refine lv_tableIn (off := 49) (tgt := 106) hx hb d_LA_of1_57 (by rw [hc3]; decide) (by rw [hc3]; decide) (by rw [hc3]; rfl) rfl ?_
                refine lv_aload hx hb d_LA_of1_106 (lv_at hl 0 rfl) ?_
                refine mm_getN (h := 8) (i := (12 * x2.toNatClampNeg + x1.toNatClampNeg)) 1 hX hP (mm_l8 (n := L.1) (mm_l5 (n := L.1) hin11) hin12) rfl rfl uin_8 (by decide) ⟨rfl, rfl, rfl⟩ wn_56 rfl d_LA_of1_108 ?_
                cases h
                exact mm_iret hx hb hr hlk hP hF d_LA_of1_111
              have h := mm_neg hc3 h
              refine lv_tableOut (tgt := 112) hx hb d_LA_of1_57 (mm_out0_3 hc0 hc1 hc2 hc3) rfl ?_
              refine lv_aload hx hb d_LA_of1_112 (lv_at hl 0 rfl) ?_
              refine mm_getN (h := 8) (i := (12 * x2.toNatClampNeg + x1.toNatClampNeg)) 5 hX hP (mm_l8 (n := L.1) (mm_l5 (n := L.1) hin11) hin12) rfl rfl uin_8 (by decide) ⟨rfl, rfl, rfl⟩ wn_66 rfl d_LA_of1_114 ?_
              cases h
              exact mm_iret hx hb hr hlk hP hF d_LA_of1_117
            · have h := mm_pos hc h
              refine lv_iconst (v := -1) hx hb d_LA_of1_41 (by decide) ?_
              cases h
              exact mm_iret hx hb hr hlk hP hF d_LA_of1_42
          · cases h
            exact mm_goT (x := xe + 1) (mm_goV (As := []) (rest := []) hX (c_Co_isPlaced (mm_l5 (n := L.1) hin7) hf10) yw_Co_isPlaced wt_280 wt_281 wt_282 hP hF (mm_recv (h := 5) (i := x2.toNatClampNeg) hX hP (mm_l5 (n := L.1) hin7) rfl rfl) rfl hl.1 (Nat.le_of_ble_eq_true rfl) (by decide) (by decide) hRc hRs d_LA_of1_35) hF hex hlk
        · have h := mm_neg hc h
          exact w_LA_of1_b19 hX h hP hF (lv_sub (l' := []) hl [] rfl)
    · cases h
      exact mm_goT (x := xe + 1) (mm_goV (As := [.int x2]) (rest := []) hX (c_LA_requireCopy hv_r0 hf6) yw_LA_requireCopy wt_203 wt_205 ws_0_0 hP hF (mm_recv (h := 0) (i := r0) hX hP hv_r0 rfl rfl) rfl hl.1 (Nat.le_of_ble_eq_true rfl) (by decide) (by decide) hRc hRs d_LA_of1_7) hF hex hlk
  · cases h
    exact mm_goT (x := xe + 1) (mm_goV (As := [.int x1]) (rest := []) hX (c_LA_requireLibrary hv_r0 hf3) yw_LA_requireLibrary wt_275 wt_277 ws_0_2 hP hF (mm_recv (h := 0) (i := r0) hX hP hv_r0 rfl rfl) rfl hl.1 (Nat.le_of_ble_eq_true rfl) (by decide) (by decide) hRc hRs d_LA_of1_2) hF hex hlk
set_option maxRecDepth 100000 in
set_option maxHeartbeats 4000000 in
theorem c_LA_of1 {l : Launch} {L : mm_L} {g g' : mm_M} {eo : Nat} {v : Int32} {r0 : Nat} {x1 : Int32} {x2 : Int32} {x3 : Int32} (hv_r0 : mm_lv L.1 0 r0) (h : f_LA_of1 L.1 g r0 x1 x2 x3 = some (eo, v, g')) : mm_C l y_LA_of1 prog_1_method_15_code 5 (some .int) 7 103 L [.ref (L.2.1 0 r0), .int x1, .int x2, .int x3] g (mm_oi eo v) g' := by
  intro p e R s m below meth c hX hP
  refine mm_enter (Nat.le_of_ble_eq_true rfl) fun ls hl => ?_
  exact w_LA_of1 hX h hP (fun q hq => by cases hq) (lv_sub (l' := [(0, .ref (L.2.1 0 r0)), (1, .int x1), (2, .int x2), (3, .int x3)]) hl [0, 1, 2, 3] rfl) hv_r0
def f_LA_reader (n : Nat) (g : mm_M) (r0 : Nat) (x1 : Int32) (x2 : Int32) (x3 : Int32) : Option (Nat × Int32 × mm_M) :=
  mm_bd (f_LA_requireLibrary n g r0 x1) 0 (fun z1 g2 => mm_bd (f_LA_requireCopy n g2 x2) 0 (fun z4 g5 => mm_ix x2 3 (mm_ix x1 n (mm_bd (f_De_queuedAt n g5 (12 * x2.toNatClampNeg + x1.toNatClampNeg) x3) 0 (fun z9 g10 => some (0, z9, g10))))))
set_option maxRecDepth 100000 in
set_option maxHeartbeats 4000000 in
theorem w_LA_reader {p : Program} {l : Launch} {e : Env} {R : Room} {s : State} {m : MethodId} {args : Array Value} {below : List Frame} {meth : Method} {c : Code} {L : mm_L} {eo : Nat} {v : Int32} {g' : mm_M} {g : mm_M} {r0 : Nat} {x1 : Int32} {x2 : Int32} {x3 : Int32} {H : Heap} {locs : List Loc} {ls : Array Slot} (hX : mm_X L prog_1_method_16_code 4 "LoanArrows" (some .int) 7 103 p l R s m meth c) (h : f_LA_reader L.1 g r0 x1 x2 x3 = some (eo, v, g')) (hP : mm_P L g H) (hF : ∀ q ∈ locs, mm_F L q.base) (hl : lv_has ls 4 [(0, .ref (L.2.1 0 r0)), (1, .int x1), (2, .int x2), (3, .int x3)]) (hv_r0 : mm_lv L.1 0 r0) : W p l e R s m args below meth c H locs 0 0 (mm_Q below L s (mm_oi eo v) g') (F0 m 0 ls []) := by
  have hX0 := hX
  obtain ⟨hx, hb, hml, hown, hr, hlk, hex, hRf, hRl, hRc, hRs, hJ, hK, hst, h00⟩ := hX0
  unfold f_LA_reader at h
  refine lv_aload_n hx hb d_LA_reader_0 rfl (lv_at hl 0 rfl) ?_
  refine lv_iload_n hx hb d_LA_reader_1 rfl (lv_at hl 1 rfl) ?_
  rcases mm_bd_some h with ⟨z1, g2, hf3, h⟩ | ⟨xe, z1, g2, hf3, h⟩
  · refine mm_goR (v := none) (mm_goV (As := [.int x1]) (rest := []) hX (c_LA_requireLibrary hv_r0 hf3) yw_LA_requireLibrary wt_275 wt_277 ws_0_2 hP hF (mm_recv (h := 0) (i := r0) hX hP hv_r0 rfl rfl) rfl hl.1 (Nat.le_of_ble_eq_true rfl) (by decide) (by decide) hRc hRs d_LA_reader_2) hF (fun H locs hP hF _ => ?_)
    refine lv_aload_n hx hb d_LA_reader_5 rfl (lv_at hl 0 rfl) ?_
    refine lv_iload_n hx hb d_LA_reader_6 rfl (lv_at hl 2 rfl) ?_
    rcases mm_bd_some h with ⟨z4, g5, hf6, h⟩ | ⟨xe, z4, g5, hf6, h⟩
    · refine mm_goR (v := none) (mm_goV (As := [.int x2]) (rest := []) hX (c_LA_requireCopy hv_r0 hf6) yw_LA_requireCopy wt_203 wt_205 ws_0_0 hP hF (mm_recv (h := 0) (i := r0) hX hP hv_r0 rfl rfl) rfl hl.1 (Nat.le_of_ble_eq_true rfl) (by decide) (by decide) hRc hRs d_LA_reader_7) hF (fun H locs hP hF _ => ?_)
      refine lv_aload_n hx hb d_LA_reader_10 rfl (lv_at hl 0 rfl) ?_
      refine mm_get (h := 0) (i := r0) 3 hX hP hv_r0 rfl rfl uin_0 (by decide) ⟨rfl, rfl, rfl⟩ wt_159 rfl d_LA_reader_11 ?_
      refine lv_iload_n hx hb d_LA_reader_14 rfl (lv_at hl 2 rfl) ?_
      obtain ⟨hin7, h⟩ := mm_ix_some h
      refine mm_aald (t := 2) (h := 4) (i := 0) hX hP mm_ls4 rfl rfl rfl hin7 d_LA_reader_15 ?_
      refine mm_getN (h := 5) (i := x2.toNatClampNeg) 0 hX hP (mm_l5 (n := L.1) hin7) rfl rfl uin_5 (by decide) ⟨rfl, rfl, rfl⟩ wn_81 rfl d_LA_reader_16 ?_
      refine lv_iload_n hx hb d_LA_reader_19 rfl (lv_at hl 1 rfl) ?_
      obtain ⟨hin8, h⟩ := mm_ix_some h
      refine mm_aald (t := 3) (h := 6) (i := x2.toNatClampNeg) hX hP (mm_l5 (n := L.1) hin7) rfl rfl rfl hin8 d_LA_reader_20 ?_
      refine lv_iload_n hx hb d_LA_reader_21 rfl (lv_at hl 3 rfl) ?_
      rcases mm_bd_some h with ⟨z9, g10, hf11, h⟩ | ⟨xe, z9, g10, hf11, h⟩
      · refine mm_goR (v := (some (.int z9))) (mm_goV (As := [.int x3]) (rest := []) hX (c_De_queuedAt (mm_l8 (n := L.1) (mm_l5 (n := L.1) hin7) hin8) hf11) yw_De_queuedAt wt_561 wt_407 wt_408 hP hF (mm_recv (h := 8) (i := (12 * x2.toNatClampNeg + x1.toNatClampNeg)) hX hP (mm_l8 (n := L.1) (mm_l5 (n := L.1) hin7) hin8) rfl rfl) rfl hl.1 (Nat.le_of_ble_eq_true rfl) (by decide) (by decide) hRc hRs d_LA_reader_22) hF (fun H locs hP hF _ => ?_)
        cases h
        exact mm_iret hx hb hr hlk hP hF d_LA_reader_25
      · cases h
        exact mm_goT (x := xe + 1) (mm_goV (As := [.int x3]) (rest := []) hX (c_De_queuedAt (mm_l8 (n := L.1) (mm_l5 (n := L.1) hin7) hin8) hf11) yw_De_queuedAt wt_561 wt_407 wt_408 hP hF (mm_recv (h := 8) (i := (12 * x2.toNatClampNeg + x1.toNatClampNeg)) hX hP (mm_l8 (n := L.1) (mm_l5 (n := L.1) hin7) hin8) rfl rfl) rfl hl.1 (Nat.le_of_ble_eq_true rfl) (by decide) (by decide) hRc hRs d_LA_reader_22) hF hex hlk
    · cases h
      exact mm_goT (x := xe + 1) (mm_goV (As := [.int x2]) (rest := []) hX (c_LA_requireCopy hv_r0 hf6) yw_LA_requireCopy wt_203 wt_205 ws_0_0 hP hF (mm_recv (h := 0) (i := r0) hX hP hv_r0 rfl rfl) rfl hl.1 (Nat.le_of_ble_eq_true rfl) (by decide) (by decide) hRc hRs d_LA_reader_7) hF hex hlk
  · cases h
    exact mm_goT (x := xe + 1) (mm_goV (As := [.int x1]) (rest := []) hX (c_LA_requireLibrary hv_r0 hf3) yw_LA_requireLibrary wt_275 wt_277 ws_0_2 hP hF (mm_recv (h := 0) (i := r0) hX hP hv_r0 rfl rfl) rfl hl.1 (Nat.le_of_ble_eq_true rfl) (by decide) (by decide) hRc hRs d_LA_reader_2) hF hex hlk
set_option maxRecDepth 100000 in
set_option maxHeartbeats 4000000 in
theorem c_LA_reader {l : Launch} {L : mm_L} {g g' : mm_M} {eo : Nat} {v : Int32} {r0 : Nat} {x1 : Int32} {x2 : Int32} {x3 : Int32} (hv_r0 : mm_lv L.1 0 r0) (h : f_LA_reader L.1 g r0 x1 x2 x3 = some (eo, v, g')) : mm_C l y_LA_reader prog_1_method_16_code 4 (some .int) 7 103 L [.ref (L.2.1 0 r0), .int x1, .int x2, .int x3] g (mm_oi eo v) g' := by
  intro p e R s m below meth c hX hP
  refine mm_enter (Nat.le_of_ble_eq_true rfl) fun ls hl => ?_
  exact w_LA_reader hX h hP (fun q hq => by cases hq) (lv_sub (l' := [(0, .ref (L.2.1 0 r0)), (1, .int x1), (2, .int x2), (3, .int x3)]) hl [0, 1, 2, 3] rfl) hv_r0
def f_LA_place_b41 (n : Nat) (g : mm_M) (t0 : Int32) : Option (Nat × Int32 × mm_M) :=
  some (0, t0, g)
set_option maxRecDepth 100000 in
set_option maxHeartbeats 4000000 in
theorem w_LA_place_b41 {p : Program} {l : Launch} {e : Env} {R : Room} {s : State} {m : MethodId} {args : Array Value} {below : List Frame} {meth : Method} {c : Code} {L : mm_L} {eo : Nat} {v : Int32} {g' : mm_M} {g : mm_M} {t0 : Int32} {H : Heap} {locs : List Loc} {ls : Array Slot} (hX : mm_X L prog_1_method_17_code 2 "LoanArrows" (some .int) 7 103 p l R s m meth c) (h : f_LA_place_b41 L.1 g t0 = some (eo, v, g')) (hP : mm_P L g H) (hF : ∀ q ∈ locs, mm_F L q.base) (hl : lv_has ls 2 []) : W p l e R s m args below meth c H locs 0 0 (mm_Q below L s (mm_oi eo v) g') (F0 m 41 ls [.int t0]) := by
  have hX0 := hX
  obtain ⟨hx, hb, hml, hown, hr, hlk, hex, hRf, hRl, hRc, hRs, hJ, hK, hst, h00⟩ := hX0
  unfold f_LA_place_b41 at h
  cases h
  exact mm_iret hx hb hr hlk hP hF d_LA_place_41
def f_LA_place (n : Nat) (g : mm_M) (r0 : Nat) (x1 : Int32) : Option (Nat × Int32 × mm_M) :=
  mm_bd (f_LA_requireCopy n g x1) 0 (fun z1 g2 => mm_ix x1 3 ((if (g2 5 x1.toNatClampNeg 4) = 0 then mm_ix x1 3 (f_LA_place_b41 n g2 (g2 5 x1.toNatClampNeg 3)) else mm_ix x1 3 (f_LA_place_b41 n g2 (16 + (g2 5 x1.toNatClampNeg 3))))))
set_option maxRecDepth 100000 in
set_option maxHeartbeats 4000000 in
theorem w_LA_place {p : Program} {l : Launch} {e : Env} {R : Room} {s : State} {m : MethodId} {args : Array Value} {below : List Frame} {meth : Method} {c : Code} {L : mm_L} {eo : Nat} {v : Int32} {g' : mm_M} {g : mm_M} {r0 : Nat} {x1 : Int32} {H : Heap} {locs : List Loc} {ls : Array Slot} (hX : mm_X L prog_1_method_17_code 2 "LoanArrows" (some .int) 7 103 p l R s m meth c) (h : f_LA_place L.1 g r0 x1 = some (eo, v, g')) (hP : mm_P L g H) (hF : ∀ q ∈ locs, mm_F L q.base) (hl : lv_has ls 2 [(0, .ref (L.2.1 0 r0)), (1, .int x1)]) (hv_r0 : mm_lv L.1 0 r0) : W p l e R s m args below meth c H locs 0 0 (mm_Q below L s (mm_oi eo v) g') (F0 m 0 ls []) := by
  have hX0 := hX
  obtain ⟨hx, hb, hml, hown, hr, hlk, hex, hRf, hRl, hRc, hRs, hJ, hK, hst, h00⟩ := hX0
  unfold f_LA_place at h
  refine lv_aload_n hx hb d_LA_place_0 rfl (lv_at hl 0 rfl) ?_
  refine lv_iload_n hx hb d_LA_place_1 rfl (lv_at hl 1 rfl) ?_
  rcases mm_bd_some h with ⟨z1, g2, hf3, h⟩ | ⟨xe, z1, g2, hf3, h⟩
  · refine mm_goR (v := none) (mm_goV (As := [.int x1]) (rest := []) hX (c_LA_requireCopy hv_r0 hf3) yw_LA_requireCopy wt_203 wt_205 ws_0_0 hP hF (mm_recv (h := 0) (i := r0) hX hP hv_r0 rfl rfl) rfl hl.1 (Nat.le_of_ble_eq_true rfl) (by decide) (by decide) hRc hRs d_LA_place_2) hF (fun H locs hP hF _ => ?_)
    refine lv_aload_n hx hb d_LA_place_5 rfl (lv_at hl 0 rfl) ?_
    refine mm_get (h := 0) (i := r0) 3 hX hP hv_r0 rfl rfl uin_0 (by decide) ⟨rfl, rfl, rfl⟩ wt_159 rfl d_LA_place_6 ?_
    refine lv_iload_n hx hb d_LA_place_9 rfl (lv_at hl 1 rfl) ?_
    obtain ⟨hin4, h⟩ := mm_ix_some h
    refine mm_aald (t := 2) (h := 4) (i := 0) hX hP mm_ls4 rfl rfl rfl hin4 d_LA_place_10 ?_
    refine mm_getN (h := 5) (i := x1.toNatClampNeg) 4 hX hP (mm_l5 (n := L.1) hin4) rfl rfl uin_5 (by decide) ⟨rfl, rfl, rfl⟩ wn_87 rfl d_LA_place_11 ?_
    refine lv_if_eq (tgt := 32) hx hb d_LA_place_14 rfl (fun hc => ?_) (fun hc => ?_)
    · have h := mm_pos hc h
      refine lv_aload_n hx hb d_LA_place_32 rfl (lv_at hl 0 rfl) ?_
      refine mm_get (h := 0) (i := r0) 3 hX hP hv_r0 rfl rfl uin_0 (by decide) ⟨rfl, rfl, rfl⟩ wt_159 rfl d_LA_place_33 ?_
      refine lv_iload_n hx hb d_LA_place_36 rfl (lv_at hl 1 rfl) ?_
      obtain ⟨hin5, h⟩ := mm_ix_some h
      refine mm_aald (t := 2) (h := 4) (i := 0) hX hP mm_ls4 rfl rfl rfl hin5 d_LA_place_37 ?_
      refine mm_getN (h := 5) (i := x1.toNatClampNeg) 3 hX hP (mm_l5 (n := L.1) hin5) rfl rfl uin_5 (by decide) ⟨rfl, rfl, rfl⟩ wn_85 rfl d_LA_place_38 ?_
      exact w_LA_place_b41 hX h hP hF (lv_sub (l' := []) hl [] rfl)
    · have h := mm_neg hc h
      refine lv_bipush (v := 16) hx hb d_LA_place_17 (by decide) ?_
      refine lv_aload_n hx hb d_LA_place_19 rfl (lv_at hl 0 rfl) ?_
      refine mm_get (h := 0) (i := r0) 3 hX hP hv_r0 rfl rfl uin_0 (by decide) ⟨rfl, rfl, rfl⟩ wt_159 rfl d_LA_place_20 ?_
      refine lv_iload_n hx hb d_LA_place_23 rfl (lv_at hl 1 rfl) ?_
      obtain ⟨hin6, h⟩ := mm_ix_some h
      refine mm_aald (t := 2) (h := 4) (i := 0) hX hP mm_ls4 rfl rfl rfl hin6 d_LA_place_24 ?_
      refine mm_getN (h := 5) (i := x1.toNatClampNeg) 3 hX hP (mm_l5 (n := L.1) hin6) rfl rfl uin_5 (by decide) ⟨rfl, rfl, rfl⟩ wn_85 rfl d_LA_place_25 ?_
      refine lv_iadd hx hb d_LA_place_28 ?_
      refine lv_goto (tgt := 41) hx hb d_LA_place_29 rfl ?_
      exact w_LA_place_b41 hX h hP hF (lv_sub (l' := []) hl [] rfl)
  · cases h
    exact mm_goT (x := xe + 1) (mm_goV (As := [.int x1]) (rest := []) hX (c_LA_requireCopy hv_r0 hf3) yw_LA_requireCopy wt_203 wt_205 ws_0_0 hP hF (mm_recv (h := 0) (i := r0) hX hP hv_r0 rfl rfl) rfl hl.1 (Nat.le_of_ble_eq_true rfl) (by decide) (by decide) hRc hRs d_LA_place_2) hF hex hlk
set_option maxRecDepth 100000 in
set_option maxHeartbeats 4000000 in
theorem c_LA_place {l : Launch} {L : mm_L} {g g' : mm_M} {eo : Nat} {v : Int32} {r0 : Nat} {x1 : Int32} (hv_r0 : mm_lv L.1 0 r0) (h : f_LA_place L.1 g r0 x1 = some (eo, v, g')) : mm_C l y_LA_place prog_1_method_17_code 2 (some .int) 7 103 L [.ref (L.2.1 0 r0), .int x1] g (mm_oi eo v) g' := by
  intro p e R s m below meth c hX hP
  refine mm_enter (Nat.le_of_ble_eq_true rfl) fun ls hl => ?_
  exact w_LA_place hX h hP (fun q hq => by cases hq) (lv_sub (l' := [(0, .ref (L.2.1 0 r0)), (1, .int x1)]) hl [0, 1] rfl) hv_r0

def f_Mo_sendOn (n : Nat) (g : mm_M) (r0 : Nat) (x1 : Int32) (x2 : Int32) : Option (Nat × Int32 × mm_M) :=
  mm_bd (f_Mo_at n g x1 x2) 0 (fun z1 g2 => mm_ix z1 36 (mm_ix x2 3 (mm_let (mm_st g2 30 0 x2.toNatClampNeg (g2 25 0 z1.toNatClampNeg)) (fun g4 => mm_ix x2 3 (mm_let (mm_st g4 31 0 x2.toNatClampNeg (vp_nar .boolean 1)) (fun g6 => mm_ix z1 36 (mm_let (mm_st g6 25 0 z1.toNatClampNeg (-1)) (fun g8 => mm_ix z1 36 (mm_let (mm_st g8 26 0 z1.toNatClampNeg 0) (fun g10 => some (0, 0, g10)))))))))))
set_option maxRecDepth 100000 in
set_option maxHeartbeats 4000000 in
theorem w_Mo_sendOn {p : Program} {l : Launch} {e : Env} {R : Room} {s : State} {m : MethodId} {args : Array Value} {below : List Frame} {meth : Method} {c : Code} {L : mm_L} {eo : Nat} {v : Int32} {g' : mm_M} {g : mm_M} {r0 : Nat} {x1 : Int32} {x2 : Int32} {H : Heap} {locs : List Loc} {ls : Array Slot} (hX : mm_X L prog_9_method_16_code 4 "LoanArrowsModel" none 1 21 p l R s m meth c) (h : f_Mo_sendOn L.1 g r0 x1 x2 = some (eo, v, g')) (hP : mm_P L g H) (hF : ∀ q ∈ locs, mm_F L q.base) (hl : lv_has ls 4 [(0, .ref (L.2.1 20 r0)), (1, .int x1), (2, .int x2)]) (hv_r0 : mm_lv L.1 20 r0) : W p l e R s m args below meth c H locs 0 0 (mm_Q below L s (mm_ov eo v) g') (F0 m 0 ls []) := by
  have hX0 := hX
  obtain ⟨hx, hb, hml, hown, hr, hlk, hex, hRf, hRl, hRc, hRs, hJ, hK, hst, h00⟩ := hX0
  unfold f_Mo_sendOn at h
  refine lv_iload_n hx hb d_Mo_sendOn_0 rfl (lv_at hl 1 rfl) ?_
  refine lv_iload_n hx hb d_Mo_sendOn_1 rfl (lv_at hl 2 rfl) ?_
  rcases mm_bd_some h with ⟨z1, g2, hf3, h⟩ | ⟨xe, z1, g2, hf3, h⟩
  · refine mm_goR (v := (some (.int z1))) (mm_goS (As := [.int x1, .int x2]) (rest := []) hX (c_Mo_at hf3) yw_Mo_at wt_717 wt_718 wt_8 hP hF rfl hl.1 (Nat.le_of_ble_eq_true rfl) (by decide) (by decide) hRc hRs d_Mo_sendOn_2) hF (fun H locs hP hF _ => ?_)
    refine lv_istore_n hx hb d_Mo_sendOn_5 rfl hl (Nat.lt_of_lt_of_le (Nat.lt_succ_self _) (Nat.le_of_ble_eq_true rfl)) rfl (fun ls hl => ?_)
    have hl : lv_has ls 4 [(3, .int z1), (0, .ref (L.2.1 20 r0)), (1, .int x1), (2, .int x2)] := hl
    refine lv_aload_n hx hb d_Mo_sendOn_6 rfl (lv_at hl 1 rfl) ?_
    refine mm_get (h := 20) (i := r0) 11 hX hP hv_r0 rfl rfl uin_20 (by decide) ⟨rfl, rfl, rfl⟩ wt_623 rfl d_Mo_sendOn_7 ?_
    refine lv_iload_n hx hb d_Mo_sendOn_10 rfl (lv_at hl 3 rfl) ?_
    refine lv_aload_n hx hb d_Mo_sendOn_11 rfl (lv_at hl 1 rfl) ?_
    refine mm_get (h := 20) (i := r0) 6 hX hP hv_r0 rfl rfl uin_20 (by decide) ⟨rfl, rfl, rfl⟩ wt_618 rfl d_Mo_sendOn_12 ?_
    refine lv_iload_n hx hb d_Mo_sendOn_15 rfl (lv_at hl 0 rfl) ?_
    obtain ⟨hin, h⟩ := mm_ix_some h
    refine mm_iald (h := 25) (i := 0) hX hP mm_ls25 (fun _ => rfl) rfl hin d_Mo_sendOn_16 ?_
    obtain ⟨hin, h⟩ := mm_ix_some h
    refine mm_iast (h := 30) (i := 0) hX hP hF mm_ls30 (fun _ => rfl) rfl hin d_Mo_sendOn_17 (fun H locs hP hF => ?_)
    obtain ⟨g4, e5, h⟩ := mm_let_ex h
    have hP : mm_P L g4 H := by rw [e5]; exact hP
    refine lv_aload_n hx hb d_Mo_sendOn_18 rfl (lv_at hl 1 rfl) ?_
    refine mm_get (h := 20) (i := r0) 12 hX hP hv_r0 rfl rfl uin_20 (by decide) ⟨rfl, rfl, rfl⟩ wt_624 rfl d_Mo_sendOn_19 ?_
    refine lv_iload_n hx hb d_Mo_sendOn_22 rfl (lv_at hl 3 rfl) ?_
    refine lv_iconst (v := 1) hx hb d_Mo_sendOn_23 (by decide) ?_
    obtain ⟨hin, h⟩ := mm_ix_some h
    refine mm_zast (h := 31) (i := 0) hX hP hF mm_ls31 (fun _ => rfl) rfl hin d_Mo_sendOn_24 (fun H locs hP hF => ?_)
    obtain ⟨g6, e7, h⟩ := mm_let_ex h
    have hP : mm_P L g6 H := by rw [e7]; exact hP
    refine lv_aload_n hx hb d_Mo_sendOn_25 rfl (lv_at hl 1 rfl) ?_
    refine mm_get (h := 20) (i := r0) 6 hX hP hv_r0 rfl rfl uin_20 (by decide) ⟨rfl, rfl, rfl⟩ wt_618 rfl d_Mo_sendOn_26 ?_
    refine lv_iload_n hx hb d_Mo_sendOn_29 rfl (lv_at hl 0 rfl) ?_
    refine lv_iconst (v := -1) hx hb d_Mo_sendOn_30 (by decide) ?_
    obtain ⟨hin, h⟩ := mm_ix_some h
    refine mm_iast (h := 25) (i := 0) hX hP hF mm_ls25 (fun _ => rfl) rfl hin d_Mo_sendOn_31 (fun H locs hP hF => ?_)
    obtain ⟨g8, e9, h⟩ := mm_let_ex h
    have hP : mm_P L g8 H := by rw [e9]; exact hP
    refine lv_aload_n hx hb d_Mo_sendOn_32 rfl (lv_at hl 1 rfl) ?_
    refine mm_get (h := 20) (i := r0) 7 hX hP hv_r0 rfl rfl uin_20 (by decide) ⟨rfl, rfl, rfl⟩ wt_619 rfl d_Mo_sendOn_33 ?_
    refine lv_iload_n hx hb d_Mo_sendOn_36 rfl (lv_at hl 0 rfl) ?_
    refine lv_iconst (v := 0) hx hb d_Mo_sendOn_37 (by decide) ?_
    obtain ⟨hin, h⟩ := mm_ix_some h
    refine mm_iast (h := 26) (i := 0) hX hP hF mm_ls26 (fun _ => rfl) rfl hin d_Mo_sendOn_38 (fun H locs hP hF => ?_)
    obtain ⟨g10, e11, h⟩ := mm_let_ex h
    have hP : mm_P L g10 H := by rw [e11]; exact hP
    cases h
    exact mm_vret hx hb hr hlk hP hF d_Mo_sendOn_39
  · cases h
    exact mm_goT (x := xe + 1) (mm_goS (As := [.int x1, .int x2]) (rest := []) hX (c_Mo_at hf3) yw_Mo_at wt_717 wt_718 wt_8 hP hF rfl hl.1 (Nat.le_of_ble_eq_true rfl) (by decide) (by decide) hRc hRs d_Mo_sendOn_2) hF hex hlk
set_option maxRecDepth 100000 in
set_option maxHeartbeats 4000000 in
theorem c_Mo_sendOn {l : Launch} {L : mm_L} {g g' : mm_M} {eo : Nat} {v : Int32} {r0 : Nat} {x1 : Int32} {x2 : Int32} (hv_r0 : mm_lv L.1 20 r0) (h : f_Mo_sendOn L.1 g r0 x1 x2 = some (eo, v, g')) : mm_C l y_Mo_sendOn prog_9_method_16_code 4 none 1 21 L [.ref (L.2.1 20 r0), .int x1, .int x2] g (mm_ov eo v) g' := by
  intro p e R s m below meth c hX hP
  refine mm_enter (Nat.le_of_ble_eq_true rfl) fun ls hl => ?_
  exact w_Mo_sendOn hX h hP (fun q hq => by cases hq) (lv_sub (l' := [(0, .ref (L.2.1 20 r0)), (1, .int x1), (2, .int x2)]) hl [0, 1, 2] rfl) hv_r0
def f_Mo_takeFind_b69 (n : Nat) (g : mm_M)  : Option (Nat × Int32 × mm_M) :=
  some (0, 0, g)
set_option maxRecDepth 100000 in
set_option maxHeartbeats 4000000 in
theorem w_Mo_takeFind_b69 {p : Program} {l : Launch} {e : Env} {R : Room} {s : State} {m : MethodId} {args : Array Value} {below : List Frame} {meth : Method} {c : Code} {L : mm_L} {eo : Nat} {v : Int32} {g' : mm_M} {g : mm_M} {H : Heap} {locs : List Loc} {ls : Array Slot} (hX : mm_X L prog_9_method_17_code 7 "LoanArrowsModel" none 3 76 p l R s m meth c) (h : f_Mo_takeFind_b69 L.1 g = some (eo, v, g')) (hP : mm_P L g H) (hF : ∀ q ∈ locs, mm_F L q.base) (hl : lv_has ls 7 []) : W p l e R s m args below meth c H locs 0 0 (mm_Q below L s (mm_ov eo v) g') (F0 m 69 ls []) := by
  have hX0 := hX
  obtain ⟨hx, hb, hml, hown, hr, hlk, hex, hRf, hRl, hRc, hRs, hJ, hK, hst, h00⟩ := hX0
  unfold f_Mo_takeFind_b69 at h
  cases h
  exact mm_vret hx hb hr hlk hP hF d_Mo_takeFind_69
def f_Mo_takeFind (n : Nat) (g : mm_M) (r0 : Nat) (x1 : Int32) (x2 : Int32) (x3 : Int32) (x4 : Int32) : Option (Nat × Int32 × mm_M) :=
  mm_bd (f_Mo_at n g x1 x3) 0 (fun z1 g2 => mm_ix z1 36 (mm_ix z1 36 (mm_let (mm_st g2 24 0 z1.toNatClampNeg x2) (fun g4 => (if (g2 24 0 z1.toNatClampNeg) = x1 then mm_ix z1 36 (mm_let (mm_st g4 25 0 z1.toNatClampNeg x4) (fun g6 => mm_ix z1 36 ((if (g6 26 0 z1.toNatClampNeg) = 4 then mm_bd (f_Mo_sendOn n g6 r0 x1 x3) 0 (fun z8 g9 => f_Mo_takeFind_b69 n g9) else f_Mo_takeFind_b69 n g6)))) else mm_bd (f_Mo_write n g4 r0 x1 (g2 24 0 z1.toNatClampNeg) x3 x4) 0 (fun z11 g12 => f_Mo_takeFind_b69 n g12))))))
set_option maxRecDepth 100000 in
set_option maxHeartbeats 4000000 in
theorem w_Mo_takeFind {p : Program} {l : Launch} {e : Env} {R : Room} {s : State} {m : MethodId} {args : Array Value} {below : List Frame} {meth : Method} {c : Code} {L : mm_L} {eo : Nat} {v : Int32} {g' : mm_M} {g : mm_M} {r0 : Nat} {x1 : Int32} {x2 : Int32} {x3 : Int32} {x4 : Int32} {H : Heap} {locs : List Loc} {ls : Array Slot} (hX : mm_X L prog_9_method_17_code 7 "LoanArrowsModel" none 3 76 p l R s m meth c) (h : f_Mo_takeFind L.1 g r0 x1 x2 x3 x4 = some (eo, v, g')) (hP : mm_P L g H) (hF : ∀ q ∈ locs, mm_F L q.base) (hl : lv_has ls 7 [(0, .ref (L.2.1 20 r0)), (1, .int x1), (2, .int x2), (3, .int x3), (4, .int x4)]) (hv_r0 : mm_lv L.1 20 r0) : W p l e R s m args below meth c H locs 0 0 (mm_Q below L s (mm_ov eo v) g') (F0 m 0 ls []) := by
  have hX0 := hX
  obtain ⟨hx, hb, hml, hown, hr, hlk, hex, hRf, hRl, hRc, hRs, hJ, hK, hst, h00⟩ := hX0
  unfold f_Mo_takeFind at h
  refine lv_iload_n hx hb d_Mo_takeFind_0 rfl (lv_at hl 1 rfl) ?_
  refine lv_iload_n hx hb d_Mo_takeFind_1 rfl (lv_at hl 3 rfl) ?_
  rcases mm_bd_some h with ⟨z1, g2, hf3, h⟩ | ⟨xe, z1, g2, hf3, h⟩
  · refine mm_goR (v := (some (.int z1))) (mm_goS (As := [.int x1, .int x3]) (rest := []) hX (c_Mo_at hf3) yw_Mo_at wt_717 wt_718 wt_8 hP hF rfl hl.1 (Nat.le_of_ble_eq_true rfl) (by decide) (by decide) hRc hRs d_Mo_takeFind_2) hF (fun H locs hP hF _ => ?_)
    refine lv_istore hx hb d_Mo_takeFind_5 hl (Nat.lt_of_lt_of_le (Nat.lt_succ_self _) (Nat.le_of_ble_eq_true rfl)) rfl (fun ls hl => ?_)
    have hl : lv_has ls 7 [(5, .int z1), (0, .ref (L.2.1 20 r0)), (1, .int x1), (2, .int x2), (3, .int x3), (4, .int x4)] := hl
    refine lv_aload_n hx hb d_Mo_takeFind_7 rfl (lv_at hl 1 rfl) ?_
    refine mm_get (h := 20) (i := r0) 5 hX hP hv_r0 rfl rfl uin_20 (by decide) ⟨rfl, rfl, rfl⟩ wt_617 rfl d_Mo_takeFind_8 ?_
    refine lv_iload hx hb d_Mo_takeFind_11 (lv_at hl 0 rfl) ?_
    obtain ⟨hin, h⟩ := mm_ix_some h
    refine mm_iald (h := 24) (i := 0) hX hP mm_ls24 (fun _ => rfl) rfl hin d_Mo_takeFind_13 ?_
    refine lv_istore hx hb d_Mo_takeFind_14 hl (Nat.lt_of_lt_of_le (Nat.lt_succ_self _) (Nat.le_of_ble_eq_true rfl)) rfl (fun ls hl => ?_)
    have hl : lv_has ls 7 [(6, .int (g2 24 0 z1.toNatClampNeg)), (5, .int z1), (0, .ref (L.2.1 20 r0)), (1, .int x1), (2, .int x2), (3, .int x3), (4, .int x4)] := hl
    refine lv_aload_n hx hb d_Mo_takeFind_16 rfl (lv_at hl 2 rfl) ?_
    refine mm_get (h := 20) (i := r0) 5 hX hP hv_r0 rfl rfl uin_20 (by decide) ⟨rfl, rfl, rfl⟩ wt_617 rfl d_Mo_takeFind_17 ?_
    refine lv_iload hx hb d_Mo_takeFind_20 (lv_at hl 1 rfl) ?_
    refine lv_iload_n hx hb d_Mo_takeFind_22 rfl (lv_at hl 4 rfl) ?_
    obtain ⟨hin, h⟩ := mm_ix_some h
    refine mm_iast (h := 24) (i := 0) hX hP hF mm_ls24 (fun _ => rfl) rfl hin d_Mo_takeFind_23 (fun H locs hP hF => ?_)
    obtain ⟨g4, e5, h⟩ := mm_let_ex h
    have hP : mm_P L g4 H := by rw [e5]; exact hP
    refine lv_iload hx hb d_Mo_takeFind_24 (lv_at hl 0 rfl) ?_
    refine lv_iload_n hx hb d_Mo_takeFind_26 rfl (lv_at hl 3 rfl) ?_
    refine lv_icmp_eq (tgt := 43) hx hb d_Mo_takeFind_27 rfl (fun hc => ?_) (fun hc => ?_)
    · have h := mm_pos hc h
      refine lv_aload_n hx hb d_Mo_takeFind_43 rfl (lv_at hl 2 rfl) ?_
      refine mm_get (h := 20) (i := r0) 6 hX hP hv_r0 rfl rfl uin_20 (by decide) ⟨rfl, rfl, rfl⟩ wt_618 rfl d_Mo_takeFind_44 ?_
      refine lv_iload hx hb d_Mo_takeFind_47 (lv_at hl 1 rfl) ?_
      refine lv_iload hx hb d_Mo_takeFind_49 (lv_at hl 6 rfl) ?_
      obtain ⟨hin, h⟩ := mm_ix_some h
      refine mm_iast (h := 25) (i := 0) hX hP hF mm_ls25 (fun _ => rfl) rfl hin d_Mo_takeFind_51 (fun H locs hP hF => ?_)
      obtain ⟨g6, e7, h⟩ := mm_let_ex h
      have hP : mm_P L g6 H := by rw [e7]; exact hP
      refine lv_aload_n hx hb d_Mo_takeFind_52 rfl (lv_at hl 2 rfl) ?_
      refine mm_get (h := 20) (i := r0) 7 hX hP hv_r0 rfl rfl uin_20 (by decide) ⟨rfl, rfl, rfl⟩ wt_619 rfl d_Mo_takeFind_53 ?_
      refine lv_iload hx hb d_Mo_takeFind_56 (lv_at hl 1 rfl) ?_
      obtain ⟨hin, h⟩ := mm_ix_some h
      refine mm_iald (h := 26) (i := 0) hX hP mm_ls26 (fun _ => rfl) rfl hin d_Mo_takeFind_58 ?_
      refine lv_iconst (v := 4) hx hb d_Mo_takeFind_59 (by decide) ?_
      refine lv_icmp_ne (tgt := 69) hx hb d_Mo_takeFind_60 rfl (fun hc => ?_) (fun hc => ?_)
      · have h := mm_neg hc h
        exact w_Mo_takeFind_b69 hX h hP hF (lv_sub (l' := []) hl [] rfl)
      · have h := mm_pos hc h
        refine lv_aload_n hx hb d_Mo_takeFind_63 rfl (lv_at hl 2 rfl) ?_
        refine lv_iload_n hx hb d_Mo_takeFind_64 rfl (lv_at hl 3 rfl) ?_
        refine lv_iload_n hx hb d_Mo_takeFind_65 rfl (lv_at hl 5 rfl) ?_
        rcases mm_bd_some h with ⟨z8, g9, hf10, h⟩ | ⟨xe, z8, g9, hf10, h⟩
        · refine mm_goR (v := none) (mm_goV (As := [.int x1, .int x3]) (rest := []) hX (c_Mo_sendOn hv_r0 hf10) yw_Mo_sendOn wt_764 wt_766 ws_1_6 hP hF (mm_recv (h := 20) (i := r0) hX hP hv_r0 rfl rfl) rfl hl.1 (Nat.le_of_ble_eq_true rfl) (by decide) (by decide) hRc hRs d_Mo_takeFind_66) hF (fun H locs hP hF _ => ?_)
          exact w_Mo_takeFind_b69 hX h hP hF (lv_sub (l' := []) hl [] rfl)
        · cases h
          exact mm_goT (x := xe + 1) (mm_goV (As := [.int x1, .int x3]) (rest := []) hX (c_Mo_sendOn hv_r0 hf10) yw_Mo_sendOn wt_764 wt_766 ws_1_6 hP hF (mm_recv (h := 20) (i := r0) hX hP hv_r0 rfl rfl) rfl hl.1 (Nat.le_of_ble_eq_true rfl) (by decide) (by decide) hRc hRs d_Mo_takeFind_66) hF hex hlk
    · have h := mm_neg hc h
      refine lv_aload_n hx hb d_Mo_takeFind_30 rfl (lv_at hl 2 rfl) ?_
      refine lv_iload_n hx hb d_Mo_takeFind_31 rfl (lv_at hl 3 rfl) ?_
      refine lv_iload hx hb d_Mo_takeFind_32 (lv_at hl 0 rfl) ?_
      refine lv_iload_n hx hb d_Mo_takeFind_34 rfl (lv_at hl 5 rfl) ?_
      refine lv_iload hx hb d_Mo_takeFind_35 (lv_at hl 6 rfl) ?_
      rcases mm_bd_some h with ⟨z11, g12, hf13, h⟩ | ⟨xe, z11, g12, hf13, h⟩
      · refine mm_goR (v := none) (mm_goV (As := [.int x1, .int (g2 24 0 z1.toNatClampNeg), .int x3, .int x4]) (rest := []) hX (c_Mo_write hv_r0 hf13) yw_Mo_write wt_740 wt_742 ws_1_2 hP hF (mm_recv (h := 20) (i := r0) hX hP hv_r0 rfl rfl) rfl hl.1 (Nat.le_of_ble_eq_true rfl) (by decide) (by decide) hRc hRs d_Mo_takeFind_37) hF (fun H locs hP hF _ => ?_)
        refine lv_goto (tgt := 69) hx hb d_Mo_takeFind_40 rfl ?_
        exact w_Mo_takeFind_b69 hX h hP hF (lv_sub (l' := []) hl [] rfl)
      · cases h
        exact mm_goT (x := xe + 1) (mm_goV (As := [.int x1, .int (g2 24 0 z1.toNatClampNeg), .int x3, .int x4]) (rest := []) hX (c_Mo_write hv_r0 hf13) yw_Mo_write wt_740 wt_742 ws_1_2 hP hF (mm_recv (h := 20) (i := r0) hX hP hv_r0 rfl rfl) rfl hl.1 (Nat.le_of_ble_eq_true rfl) (by decide) (by decide) hRc hRs d_Mo_takeFind_37) hF hex hlk
  · cases h
    exact mm_goT (x := xe + 1) (mm_goS (As := [.int x1, .int x3]) (rest := []) hX (c_Mo_at hf3) yw_Mo_at wt_717 wt_718 wt_8 hP hF rfl hl.1 (Nat.le_of_ble_eq_true rfl) (by decide) (by decide) hRc hRs d_Mo_takeFind_2) hF hex hlk
set_option maxRecDepth 100000 in
set_option maxHeartbeats 4000000 in
theorem c_Mo_takeFind {l : Launch} {L : mm_L} {g g' : mm_M} {eo : Nat} {v : Int32} {r0 : Nat} {x1 : Int32} {x2 : Int32} {x3 : Int32} {x4 : Int32} (hv_r0 : mm_lv L.1 20 r0) (h : f_Mo_takeFind L.1 g r0 x1 x2 x3 x4 = some (eo, v, g')) : mm_C l y_Mo_takeFind prog_9_method_17_code 7 none 3 76 L [.ref (L.2.1 20 r0), .int x1, .int x2, .int x3, .int x4] g (mm_ov eo v) g' := by
  intro p e R s m below meth c hX hP
  refine mm_enter (Nat.le_of_ble_eq_true rfl) fun ls hl => ?_
  exact w_Mo_takeFind hX h hP (fun q hq => by cases hq) (lv_sub (l' := [(0, .ref (L.2.1 20 r0)), (1, .int x1), (2, .int x2), (3, .int x3), (4, .int x4)]) hl [0, 1, 2, 3, 4] rfl) hv_r0
def f_Mo_copyAt_l60 (n : Nat) : Nat → mm_M → Nat → Int32 → Int32 → Int32 → Option (Nat × Int32 × mm_M)
  | 0, _, _, _, _, _ => none
  | k + 1, g, r0, x1, x2, x3 => (if (g 20 r0 1) ≤ x3 then some (0, 0, g) else mm_bd (f_Mo_at n g x3 x1) 0 (fun z1 g2 => (if x3 = x2 then mm_ix z1 36 (mm_let (mm_st g2 24 0 z1.toNatClampNeg x3) (fun g21 => mm_bd (f_Mo_at n g21 x3 x1) 0 (fun z23 g24 => mm_ix z23 36 (mm_let (mm_st g24 25 0 z23.toNatClampNeg (-1)) (fun g26 => mm_bd (f_Mo_at n g26 x3 x1) 0 (fun z28 g29 => (if x3 = x2 then mm_ix z28 36 (mm_let (mm_st g29 26 0 z28.toNatClampNeg 4) (fun g33 => f_Mo_copyAt_l60 n k g33 r0 x1 x2 (x3 + 1))) else mm_ix z28 36 (mm_let (mm_st g29 26 0 z28.toNatClampNeg 0) (fun g31 => f_Mo_copyAt_l60 n k g31 r0 x1 x2 (x3 + 1)))))))))) else mm_bd (f_Mo_towards n g2 r0 x3 x2) 0 (fun z4 g5 => mm_ix z1 36 (mm_let (mm_st g5 24 0 z1.toNatClampNeg z4) (fun g7 => mm_bd (f_Mo_at n g7 x3 x1) 0 (fun z9 g10 => mm_ix z9 36 (mm_let (mm_st g10 25 0 z9.toNatClampNeg (-1)) (fun g12 => mm_bd (f_Mo_at n g12 x3 x1) 0 (fun z14 g15 => (if x3 = x2 then mm_ix z14 36 (mm_let (mm_st g15 26 0 z14.toNatClampNeg 4) (fun g19 => f_Mo_copyAt_l60 n k g19 r0 x1 x2 (x3 + 1))) else mm_ix z14 36 (mm_let (mm_st g15 26 0 z14.toNatClampNeg 0) (fun g17 => f_Mo_copyAt_l60 n k g17 r0 x1 x2 (x3 + 1))))))))))))))
set_option maxRecDepth 100000 in
set_option maxHeartbeats 4000000 in
theorem w_Mo_copyAt_l60 {p : Program} {l : Launch} {e : Env} {R : Room} {s : State} {m : MethodId} {args : Array Value} {below : List Frame} {meth : Method} {c : Code} {L : mm_L} {eo : Nat} {v : Int32} {g' : mm_M} (hX : mm_X L prog_9_method_18_code 4 "LoanArrowsModel" none 2 46 p l R s m meth c) : ∀ (k : Nat) (g : mm_M) (r0 : Nat) (x1 : Int32) (x2 : Int32) (x3 : Int32) (H : Heap) (locs : List Loc) (ls : Array Slot), f_Mo_copyAt_l60 L.1 k g r0 x1 x2 x3 = some (eo, v, g') → mm_P L g H → (∀ q ∈ locs, mm_F L q.base) → lv_has ls 4 [(0, .ref (L.2.1 20 r0)), (1, .int x1), (2, .int x2), (3, .int x3)] → mm_lv L.1 20 r0 → W p l e R s m args below meth c H locs 0 0 (mm_Q below L s (mm_ov eo v) g') (F0 m 60 ls []) := by
  have hX0 := hX
  obtain ⟨hx, hb, hml, hown, hr, hlk, hex, hRf, hRl, hRc, hRs, hJ, hK, hst, h00⟩ := hX0
  intro k
  induction k with
  | zero =>
    intro g r0 x1 x2 x3 H locs ls h hP hF hl hv_r0
    rw [f_Mo_copyAt_l60] at h
    cases h
  | succ k ih =>
    intro g r0 x1 x2 x3 H locs ls h hP hF hl hv_r0
    rw [f_Mo_copyAt_l60] at h
    refine lv_iload_n hx hb d_Mo_copyAt_60 rfl (lv_at hl 3 rfl) ?_
    refine lv_aload_n hx hb d_Mo_copyAt_61 rfl (lv_at hl 0 rfl) ?_
    refine mm_get (h := 20) (i := r0) 1 hX hP hv_r0 rfl rfl uin_20 (by decide) ⟨rfl, rfl, rfl⟩ wt_613 rfl d_Mo_copyAt_62 ?_
    refine lv_icmp_ge (tgt := 130) hx hb d_Mo_copyAt_65 rfl (fun hc => ?_) (fun hc => ?_)
    · have h := mm_pos hc h
      cases h
      exact mm_vret hx hb hr hlk hP hF d_Mo_copyAt_130
    · have h := mm_neg hc h
      refine lv_aload_n hx hb d_Mo_copyAt_68 rfl (lv_at hl 0 rfl) ?_
      refine mm_get (h := 20) (i := r0) 5 hX hP hv_r0 rfl rfl uin_20 (by decide) ⟨rfl, rfl, rfl⟩ wt_617 rfl d_Mo_copyAt_69 ?_
      refine lv_iload_n hx hb d_Mo_copyAt_72 rfl (lv_at hl 3 rfl) ?_
      refine lv_iload_n hx hb d_Mo_copyAt_73 rfl (lv_at hl 1 rfl) ?_
      rcases mm_bd_some h with ⟨z1, g2, hf3, h⟩ | ⟨xe, z1, g2, hf3, h⟩
      · refine mm_goR (v := (some (.int z1))) (mm_goS (As := [.int x3, .int x1]) (rest := [.ref (L.2.1 24 0)]) hX (c_Mo_at hf3) yw_Mo_at wt_717 wt_718 wt_8 hP hF rfl hl.1 (Nat.le_of_ble_eq_true rfl) (by decide) (by decide) hRc hRs d_Mo_copyAt_74) hF (fun H locs hP hF _ => ?_)
        refine lv_iload_n hx hb d_Mo_copyAt_77 rfl (lv_at hl 3 rfl) ?_
        refine lv_iload_n hx hb d_Mo_copyAt_78 rfl (lv_at hl 2 rfl) ?_
        refine lv_icmp_ne (tgt := 86) hx hb d_Mo_copyAt_79 rfl (fun hc => ?_) (fun hc => ?_)
        · have h := mm_neg hc h
          refine lv_aload_n hx hb d_Mo_copyAt_86 rfl (lv_at hl 0 rfl) ?_
          refine lv_iload_n hx hb d_Mo_copyAt_87 rfl (lv_at hl 3 rfl) ?_
          refine lv_iload_n hx hb d_Mo_copyAt_88 rfl (lv_at hl 2 rfl) ?_
          rcases mm_bd_some h with ⟨z4, g5, hf6, h⟩ | ⟨xe, z4, g5, hf6, h⟩
          · refine mm_goR (v := (some (.int z4))) (mm_goV (As := [.int x3, .int x2]) (rest := [.int z1, .ref (L.2.1 24 0)]) hX (c_Mo_towards hv_r0 hf6) yw_Mo_towards wt_720 wt_722 ws_0_14 hP hF (mm_recv (h := 20) (i := r0) hX hP hv_r0 rfl rfl) rfl hl.1 (Nat.le_of_ble_eq_true rfl) (by decide) (by decide) hRc hRs d_Mo_copyAt_89) hF (fun H locs hP hF _ => ?_)
            obtain ⟨hin, h⟩ := mm_ix_some h
            refine mm_iast (h := 24) (i := 0) hX hP hF mm_ls24 (fun _ => rfl) rfl hin d_Mo_copyAt_92 (fun H locs hP hF => ?_)
            obtain ⟨g7, e8, h⟩ := mm_let_ex h
            have hP : mm_P L g7 H := by rw [e8]; exact hP
            refine lv_aload_n hx hb d_Mo_copyAt_93 rfl (lv_at hl 0 rfl) ?_
            refine mm_get (h := 20) (i := r0) 6 hX hP hv_r0 rfl rfl uin_20 (by decide) ⟨rfl, rfl, rfl⟩ wt_618 rfl d_Mo_copyAt_94 ?_
            refine lv_iload_n hx hb d_Mo_copyAt_97 rfl (lv_at hl 3 rfl) ?_
            refine lv_iload_n hx hb d_Mo_copyAt_98 rfl (lv_at hl 1 rfl) ?_
            rcases mm_bd_some h with ⟨z9, g10, hf11, h⟩ | ⟨xe, z9, g10, hf11, h⟩
            · refine mm_goR (v := (some (.int z9))) (mm_goS (As := [.int x3, .int x1]) (rest := [.ref (L.2.1 25 0)]) hX (c_Mo_at hf11) yw_Mo_at wt_717 wt_718 wt_8 hP hF rfl hl.1 (Nat.le_of_ble_eq_true rfl) (by decide) (by decide) hRc hRs d_Mo_copyAt_99) hF (fun H locs hP hF _ => ?_)
              refine lv_iconst (v := -1) hx hb d_Mo_copyAt_102 (by decide) ?_
              obtain ⟨hin, h⟩ := mm_ix_some h
              refine mm_iast (h := 25) (i := 0) hX hP hF mm_ls25 (fun _ => rfl) rfl hin d_Mo_copyAt_103 (fun H locs hP hF => ?_)
              obtain ⟨g12, e13, h⟩ := mm_let_ex h
              have hP : mm_P L g12 H := by rw [e13]; exact hP
              refine lv_aload_n hx hb d_Mo_copyAt_104 rfl (lv_at hl 0 rfl) ?_
              refine mm_get (h := 20) (i := r0) 7 hX hP hv_r0 rfl rfl uin_20 (by decide) ⟨rfl, rfl, rfl⟩ wt_619 rfl d_Mo_copyAt_105 ?_
              refine lv_iload_n hx hb d_Mo_copyAt_108 rfl (lv_at hl 3 rfl) ?_
              refine lv_iload_n hx hb d_Mo_copyAt_109 rfl (lv_at hl 1 rfl) ?_
              rcases mm_bd_some h with ⟨z14, g15, hf16, h⟩ | ⟨xe, z14, g15, hf16, h⟩
              · refine mm_goR (v := (some (.int z14))) (mm_goS (As := [.int x3, .int x1]) (rest := [.ref (L.2.1 26 0)]) hX (c_Mo_at hf16) yw_Mo_at wt_717 wt_718 wt_8 hP hF rfl hl.1 (Nat.le_of_ble_eq_true rfl) (by decide) (by decide) hRc hRs d_Mo_copyAt_110) hF (fun H locs hP hF _ => ?_)
                refine lv_iload_n hx hb d_Mo_copyAt_113 rfl (lv_at hl 3 rfl) ?_
                refine lv_iload_n hx hb d_Mo_copyAt_114 rfl (lv_at hl 2 rfl) ?_
                refine lv_icmp_ne (tgt := 122) hx hb d_Mo_copyAt_115 rfl (fun hc => ?_) (fun hc => ?_)
                · have h := mm_neg hc h
                  refine lv_iconst (v := 0) hx hb d_Mo_copyAt_122 (by decide) ?_
                  obtain ⟨hin, h⟩ := mm_ix_some h
                  refine mm_iast (h := 26) (i := 0) hX hP hF mm_ls26 (fun _ => rfl) rfl hin d_Mo_copyAt_123 (fun H locs hP hF => ?_)
                  obtain ⟨g17, e18, h⟩ := mm_let_ex h
                  have hP : mm_P L g17 H := by rw [e18]; exact hP
                  refine lv_iinc (k := 3) (v := (x3 + 1)) hx hb d_Mo_copyAt_124 hl rfl (congrArg (fun z => x3 + z) mm_i1) (Nat.lt_of_lt_of_le (Nat.lt_succ_self _) (Nat.le_of_ble_eq_true rfl)) rfl (fun ls hl => ?_)
                  have hl : lv_has ls 4 [(3, .int (x3 + 1)), (0, .ref (L.2.1 20 r0)), (1, .int x1), (2, .int x2)] := hl
                  refine lv_goto (tgt := 60) hx hb d_Mo_copyAt_127 rfl ?_
                  exact ih _ _ _ _ _ _ _ _ h hP hF (lv_sub (l' := [(0, .ref (L.2.1 20 r0)), (1, .int x1), (2, .int x2), (3, .int (x3 + 1))]) hl [1, 2, 3, 0] rfl) hv_r0
                · have h := mm_pos hc h
                  refine lv_iconst (v := 4) hx hb d_Mo_copyAt_118 (by decide) ?_
                  refine lv_goto (tgt := 123) hx hb d_Mo_copyAt_119 rfl ?_
                  obtain ⟨hin, h⟩ := mm_ix_some h
                  refine mm_iast (h := 26) (i := 0) hX hP hF mm_ls26 (fun _ => rfl) rfl hin d_Mo_copyAt_123 (fun H locs hP hF => ?_)
                  obtain ⟨g19, e20, h⟩ := mm_let_ex h
                  have hP : mm_P L g19 H := by rw [e20]; exact hP
                  refine lv_iinc (k := 3) (v := (x3 + 1)) hx hb d_Mo_copyAt_124 hl rfl (congrArg (fun z => x3 + z) mm_i1) (Nat.lt_of_lt_of_le (Nat.lt_succ_self _) (Nat.le_of_ble_eq_true rfl)) rfl (fun ls hl => ?_)
                  have hl : lv_has ls 4 [(3, .int (x3 + 1)), (0, .ref (L.2.1 20 r0)), (1, .int x1), (2, .int x2)] := hl
                  refine lv_goto (tgt := 60) hx hb d_Mo_copyAt_127 rfl ?_
                  exact ih _ _ _ _ _ _ _ _ h hP hF (lv_sub (l' := [(0, .ref (L.2.1 20 r0)), (1, .int x1), (2, .int x2), (3, .int (x3 + 1))]) hl [1, 2, 3, 0] rfl) hv_r0
              · cases h
                exact mm_goT (x := xe + 1) (mm_goS (As := [.int x3, .int x1]) (rest := [.ref (L.2.1 26 0)]) hX (c_Mo_at hf16) yw_Mo_at wt_717 wt_718 wt_8 hP hF rfl hl.1 (Nat.le_of_ble_eq_true rfl) (by decide) (by decide) hRc hRs d_Mo_copyAt_110) hF hex hlk
            · cases h
              exact mm_goT (x := xe + 1) (mm_goS (As := [.int x3, .int x1]) (rest := [.ref (L.2.1 25 0)]) hX (c_Mo_at hf11) yw_Mo_at wt_717 wt_718 wt_8 hP hF rfl hl.1 (Nat.le_of_ble_eq_true rfl) (by decide) (by decide) hRc hRs d_Mo_copyAt_99) hF hex hlk
          · cases h
            exact mm_goT (x := xe + 1) (mm_goV (As := [.int x3, .int x2]) (rest := [.int z1, .ref (L.2.1 24 0)]) hX (c_Mo_towards hv_r0 hf6) yw_Mo_towards wt_720 wt_722 ws_0_14 hP hF (mm_recv (h := 20) (i := r0) hX hP hv_r0 rfl rfl) rfl hl.1 (Nat.le_of_ble_eq_true rfl) (by decide) (by decide) hRc hRs d_Mo_copyAt_89) hF hex hlk
        · have h := mm_pos hc h
          refine lv_iload_n hx hb d_Mo_copyAt_82 rfl (lv_at hl 3 rfl) ?_
          refine lv_goto (tgt := 92) hx hb d_Mo_copyAt_83 rfl ?_
          obtain ⟨hin, h⟩ := mm_ix_some h
          refine mm_iast (h := 24) (i := 0) hX hP hF mm_ls24 (fun _ => rfl) rfl hin d_Mo_copyAt_92 (fun H locs hP hF => ?_)
          obtain ⟨g21, e22, h⟩ := mm_let_ex h
          have hP : mm_P L g21 H := by rw [e22]; exact hP
          refine lv_aload_n hx hb d_Mo_copyAt_93 rfl (lv_at hl 0 rfl) ?_
          refine mm_get (h := 20) (i := r0) 6 hX hP hv_r0 rfl rfl uin_20 (by decide) ⟨rfl, rfl, rfl⟩ wt_618 rfl d_Mo_copyAt_94 ?_
          refine lv_iload_n hx hb d_Mo_copyAt_97 rfl (lv_at hl 3 rfl) ?_
          refine lv_iload_n hx hb d_Mo_copyAt_98 rfl (lv_at hl 1 rfl) ?_
          rcases mm_bd_some h with ⟨z23, g24, hf25, h⟩ | ⟨xe, z23, g24, hf25, h⟩
          · refine mm_goR (v := (some (.int z23))) (mm_goS (As := [.int x3, .int x1]) (rest := [.ref (L.2.1 25 0)]) hX (c_Mo_at hf25) yw_Mo_at wt_717 wt_718 wt_8 hP hF rfl hl.1 (Nat.le_of_ble_eq_true rfl) (by decide) (by decide) hRc hRs d_Mo_copyAt_99) hF (fun H locs hP hF _ => ?_)
            refine lv_iconst (v := -1) hx hb d_Mo_copyAt_102 (by decide) ?_
            obtain ⟨hin, h⟩ := mm_ix_some h
            refine mm_iast (h := 25) (i := 0) hX hP hF mm_ls25 (fun _ => rfl) rfl hin d_Mo_copyAt_103 (fun H locs hP hF => ?_)
            obtain ⟨g26, e27, h⟩ := mm_let_ex h
            have hP : mm_P L g26 H := by rw [e27]; exact hP
            refine lv_aload_n hx hb d_Mo_copyAt_104 rfl (lv_at hl 0 rfl) ?_
            refine mm_get (h := 20) (i := r0) 7 hX hP hv_r0 rfl rfl uin_20 (by decide) ⟨rfl, rfl, rfl⟩ wt_619 rfl d_Mo_copyAt_105 ?_
            refine lv_iload_n hx hb d_Mo_copyAt_108 rfl (lv_at hl 3 rfl) ?_
            refine lv_iload_n hx hb d_Mo_copyAt_109 rfl (lv_at hl 1 rfl) ?_
            rcases mm_bd_some h with ⟨z28, g29, hf30, h⟩ | ⟨xe, z28, g29, hf30, h⟩
            · refine mm_goR (v := (some (.int z28))) (mm_goS (As := [.int x3, .int x1]) (rest := [.ref (L.2.1 26 0)]) hX (c_Mo_at hf30) yw_Mo_at wt_717 wt_718 wt_8 hP hF rfl hl.1 (Nat.le_of_ble_eq_true rfl) (by decide) (by decide) hRc hRs d_Mo_copyAt_110) hF (fun H locs hP hF _ => ?_)
              refine lv_iload_n hx hb d_Mo_copyAt_113 rfl (lv_at hl 3 rfl) ?_
              refine lv_iload_n hx hb d_Mo_copyAt_114 rfl (lv_at hl 2 rfl) ?_
              refine lv_icmp_ne (tgt := 122) hx hb d_Mo_copyAt_115 rfl (fun hc => ?_) (fun hc => ?_)
              · have h := mm_neg hc h
                refine lv_iconst (v := 0) hx hb d_Mo_copyAt_122 (by decide) ?_
                obtain ⟨hin, h⟩ := mm_ix_some h
                refine mm_iast (h := 26) (i := 0) hX hP hF mm_ls26 (fun _ => rfl) rfl hin d_Mo_copyAt_123 (fun H locs hP hF => ?_)
                obtain ⟨g31, e32, h⟩ := mm_let_ex h
                have hP : mm_P L g31 H := by rw [e32]; exact hP
                refine lv_iinc (k := 3) (v := (x3 + 1)) hx hb d_Mo_copyAt_124 hl rfl (congrArg (fun z => x3 + z) mm_i1) (Nat.lt_of_lt_of_le (Nat.lt_succ_self _) (Nat.le_of_ble_eq_true rfl)) rfl (fun ls hl => ?_)
                have hl : lv_has ls 4 [(3, .int (x3 + 1)), (0, .ref (L.2.1 20 r0)), (1, .int x1), (2, .int x2)] := hl
                refine lv_goto (tgt := 60) hx hb d_Mo_copyAt_127 rfl ?_
                exact ih _ _ _ _ _ _ _ _ h hP hF (lv_sub (l' := [(0, .ref (L.2.1 20 r0)), (1, .int x1), (2, .int x2), (3, .int (x3 + 1))]) hl [1, 2, 3, 0] rfl) hv_r0
              · have h := mm_pos hc h
                refine lv_iconst (v := 4) hx hb d_Mo_copyAt_118 (by decide) ?_
                refine lv_goto (tgt := 123) hx hb d_Mo_copyAt_119 rfl ?_
                obtain ⟨hin, h⟩ := mm_ix_some h
                refine mm_iast (h := 26) (i := 0) hX hP hF mm_ls26 (fun _ => rfl) rfl hin d_Mo_copyAt_123 (fun H locs hP hF => ?_)
                obtain ⟨g33, e34, h⟩ := mm_let_ex h
                have hP : mm_P L g33 H := by rw [e34]; exact hP
                refine lv_iinc (k := 3) (v := (x3 + 1)) hx hb d_Mo_copyAt_124 hl rfl (congrArg (fun z => x3 + z) mm_i1) (Nat.lt_of_lt_of_le (Nat.lt_succ_self _) (Nat.le_of_ble_eq_true rfl)) rfl (fun ls hl => ?_)
                have hl : lv_has ls 4 [(3, .int (x3 + 1)), (0, .ref (L.2.1 20 r0)), (1, .int x1), (2, .int x2)] := hl
                refine lv_goto (tgt := 60) hx hb d_Mo_copyAt_127 rfl ?_
                exact ih _ _ _ _ _ _ _ _ h hP hF (lv_sub (l' := [(0, .ref (L.2.1 20 r0)), (1, .int x1), (2, .int x2), (3, .int (x3 + 1))]) hl [1, 2, 3, 0] rfl) hv_r0
            · cases h
              exact mm_goT (x := xe + 1) (mm_goS (As := [.int x3, .int x1]) (rest := [.ref (L.2.1 26 0)]) hX (c_Mo_at hf30) yw_Mo_at wt_717 wt_718 wt_8 hP hF rfl hl.1 (Nat.le_of_ble_eq_true rfl) (by decide) (by decide) hRc hRs d_Mo_copyAt_110) hF hex hlk
          · cases h
            exact mm_goT (x := xe + 1) (mm_goS (As := [.int x3, .int x1]) (rest := [.ref (L.2.1 25 0)]) hX (c_Mo_at hf25) yw_Mo_at wt_717 wt_718 wt_8 hP hF rfl hl.1 (Nat.le_of_ble_eq_true rfl) (by decide) (by decide) hRc hRs d_Mo_copyAt_99) hF hex hlk
      · cases h
        exact mm_goT (x := xe + 1) (mm_goS (As := [.int x3, .int x1]) (rest := [.ref (L.2.1 24 0)]) hX (c_Mo_at hf3) yw_Mo_at wt_717 wt_718 wt_8 hP hF rfl hl.1 (Nat.le_of_ble_eq_true rfl) (by decide) (by decide) hRc hRs d_Mo_copyAt_74) hF hex hlk
def f_Mo_copyAt_b36 (n : Nat) (g : mm_M) (r0 : Nat) (x1 : Int32) (x2 : Int32) (u0 : Nat) (t1 : Int32) (t2 : Int32) : Option (Nat × Int32 × mm_M) :=
  mm_bd (f_Mo_refused n g u0 t1 t2 0) 0 (fun z1 g2 => (if z1 = 0 then mm_ix x1 3 (mm_let (mm_st g2 23 0 x1.toNatClampNeg (vp_nar .boolean 1)) (fun g4 => mm_ix x1 3 (mm_let (mm_st g4 30 0 x1.toNatClampNeg x2) (fun g6 => f_Mo_copyAt_l60 n 4096 g6 r0 x1 x2 0)))) else some (0, 0, g2)))
set_option maxRecDepth 100000 in
set_option maxHeartbeats 4000000 in
theorem w_Mo_copyAt_b36 {p : Program} {l : Launch} {e : Env} {R : Room} {s : State} {m : MethodId} {args : Array Value} {below : List Frame} {meth : Method} {c : Code} {L : mm_L} {eo : Nat} {v : Int32} {g' : mm_M} {g : mm_M} {r0 : Nat} {x1 : Int32} {x2 : Int32} {u0 : Nat} {t1 : Int32} {t2 : Int32} {H : Heap} {locs : List Loc} {ls : Array Slot} (hX : mm_X L prog_9_method_18_code 4 "LoanArrowsModel" none 2 46 p l R s m meth c) (h : f_Mo_copyAt_b36 L.1 g r0 x1 x2 u0 t1 t2 = some (eo, v, g')) (hP : mm_P L g H) (hF : ∀ q ∈ locs, mm_F L q.base) (hl : lv_has ls 4 [(0, .ref (L.2.1 20 r0)), (1, .int x1), (2, .int x2)]) (hv_r0 : mm_lv L.1 20 r0) (hv_u0 : mm_lv L.1 20 u0) : W p l e R s m args below meth c H locs 0 0 (mm_Q below L s (mm_ov eo v) g') (F0 m 36 ls [.int t2, .int t1, .ref (L.2.1 20 u0)]) := by
  have hX0 := hX
  obtain ⟨hx, hb, hml, hown, hr, hlk, hex, hRf, hRl, hRc, hRs, hJ, hK, hst, h00⟩ := hX0
  unfold f_Mo_copyAt_b36 at h
  refine lv_iconst (v := 0) hx hb d_Mo_copyAt_36 (by decide) ?_
  rcases mm_bd_some h with ⟨z1, g2, hf3, h⟩ | ⟨xe, z1, g2, hf3, h⟩
  · refine mm_goR (v := (some (.int z1))) (mm_goV (As := [.int t1, .int t2, .int 0]) (rest := []) hX (c_Mo_refused hv_u0 hf3) yw_Mo_refused wt_713 wt_715 ws_0_13 hP hF (mm_recv (h := 20) (i := u0) hX hP hv_u0 rfl rfl) rfl hl.1 (Nat.le_of_ble_eq_true rfl) (by decide) (by decide) hRc hRs d_Mo_copyAt_37) hF (fun H locs hP hF _ => ?_)
    refine lv_if_eq (tgt := 44) hx hb d_Mo_copyAt_40 rfl (fun hc => ?_) (fun hc => ?_)
    · have h := mm_pos hc h
      refine lv_aload_n hx hb d_Mo_copyAt_44 rfl (lv_at hl 0 rfl) ?_
      refine mm_get (h := 20) (i := r0) 4 hX hP hv_r0 rfl rfl uin_20 (by decide) ⟨rfl, rfl, rfl⟩ wt_616 rfl d_Mo_copyAt_45 ?_
      refine lv_iload_n hx hb d_Mo_copyAt_48 rfl (lv_at hl 1 rfl) ?_
      refine lv_iconst (v := 1) hx hb d_Mo_copyAt_49 (by decide) ?_
      obtain ⟨hin, h⟩ := mm_ix_some h
      refine mm_zast (h := 23) (i := 0) hX hP hF mm_ls23 (fun _ => rfl) rfl hin d_Mo_copyAt_50 (fun H locs hP hF => ?_)
      obtain ⟨g4, e5, h⟩ := mm_let_ex h
      have hP : mm_P L g4 H := by rw [e5]; exact hP
      refine lv_aload_n hx hb d_Mo_copyAt_51 rfl (lv_at hl 0 rfl) ?_
      refine mm_get (h := 20) (i := r0) 11 hX hP hv_r0 rfl rfl uin_20 (by decide) ⟨rfl, rfl, rfl⟩ wt_623 rfl d_Mo_copyAt_52 ?_
      refine lv_iload_n hx hb d_Mo_copyAt_55 rfl (lv_at hl 1 rfl) ?_
      refine lv_iload_n hx hb d_Mo_copyAt_56 rfl (lv_at hl 2 rfl) ?_
      obtain ⟨hin, h⟩ := mm_ix_some h
      refine mm_iast (h := 30) (i := 0) hX hP hF mm_ls30 (fun _ => rfl) rfl hin d_Mo_copyAt_57 (fun H locs hP hF => ?_)
      obtain ⟨g6, e7, h⟩ := mm_let_ex h
      have hP : mm_P L g6 H := by rw [e7]; exact hP
      refine lv_iconst (v := 0) hx hb d_Mo_copyAt_58 (by decide) ?_
      refine lv_istore_n hx hb d_Mo_copyAt_59 rfl hl (Nat.lt_of_lt_of_le (Nat.lt_succ_self _) (Nat.le_of_ble_eq_true rfl)) rfl (fun ls hl => ?_)
      have hl : lv_has ls 4 [(3, .int 0), (0, .ref (L.2.1 20 r0)), (1, .int x1), (2, .int x2)] := hl
      exact w_Mo_copyAt_l60 hX _ _ _ _ _ _ _ _ _ h hP hF (lv_sub (l' := [(0, .ref (L.2.1 20 r0)), (1, .int x1), (2, .int x2), (3, .int 0)]) hl [1, 2, 3, 0] rfl) hv_r0
    · have h := mm_neg hc h
      cases h
      exact mm_vret hx hb hr hlk hP hF d_Mo_copyAt_43
  · cases h
    exact mm_goT (x := xe + 1) (mm_goV (As := [.int t1, .int t2, .int 0]) (rest := []) hX (c_Mo_refused hv_u0 hf3) yw_Mo_refused wt_713 wt_715 ws_0_13 hP hF (mm_recv (h := 20) (i := u0) hX hP hv_u0 rfl rfl) rfl hl.1 (Nat.le_of_ble_eq_true rfl) (by decide) (by decide) hRc hRs d_Mo_copyAt_37) hF hex hlk
def f_Mo_copyAt_b35 (n : Nat) (g : mm_M) (r0 : Nat) (x1 : Int32) (x2 : Int32) (u0 : Nat) (t1 : Int32) : Option (Nat × Int32 × mm_M) :=
  f_Mo_copyAt_b36 n g r0 x1 x2 u0 t1 0
set_option maxRecDepth 100000 in
set_option maxHeartbeats 4000000 in
theorem w_Mo_copyAt_b35 {p : Program} {l : Launch} {e : Env} {R : Room} {s : State} {m : MethodId} {args : Array Value} {below : List Frame} {meth : Method} {c : Code} {L : mm_L} {eo : Nat} {v : Int32} {g' : mm_M} {g : mm_M} {r0 : Nat} {x1 : Int32} {x2 : Int32} {u0 : Nat} {t1 : Int32} {H : Heap} {locs : List Loc} {ls : Array Slot} (hX : mm_X L prog_9_method_18_code 4 "LoanArrowsModel" none 2 46 p l R s m meth c) (h : f_Mo_copyAt_b35 L.1 g r0 x1 x2 u0 t1 = some (eo, v, g')) (hP : mm_P L g H) (hF : ∀ q ∈ locs, mm_F L q.base) (hl : lv_has ls 4 [(0, .ref (L.2.1 20 r0)), (1, .int x1), (2, .int x2)]) (hv_r0 : mm_lv L.1 20 r0) (hv_u0 : mm_lv L.1 20 u0) : W p l e R s m args below meth c H locs 0 0 (mm_Q below L s (mm_ov eo v) g') (F0 m 35 ls [.int t1, .ref (L.2.1 20 u0)]) := by
  have hX0 := hX
  obtain ⟨hx, hb, hml, hown, hr, hlk, hex, hRf, hRl, hRc, hRs, hJ, hK, hst, h00⟩ := hX0
  unfold f_Mo_copyAt_b35 at h
  refine lv_iconst (v := 0) hx hb d_Mo_copyAt_35 (by decide) ?_
  exact w_Mo_copyAt_b36 hX h hP hF (lv_sub (l' := [(0, .ref (L.2.1 20 r0)), (1, .int x1), (2, .int x2)]) hl [0, 1, 2] rfl) hv_r0 hv_u0
def f_Mo_copyAt_b15 (n : Nat) (g : mm_M) (r0 : Nat) (x1 : Int32) (x2 : Int32) (u0 : Nat) (t1 : Int32) : Option (Nat × Int32 × mm_M) :=
  mm_bd (f_Mo_isCopy n g x1) 0 (fun z1 g2 => (if z1 = 0 then f_Mo_copyAt_b35 n g2 r0 x1 x2 u0 t1 else mm_ix x1 3 ((if (g2 23 0 x1.toNatClampNeg) = 0 then f_Mo_copyAt_b35 n g2 r0 x1 x2 u0 t1 else f_Mo_copyAt_b36 n g2 r0 x1 x2 u0 t1 1))))
set_option maxRecDepth 100000 in
set_option maxHeartbeats 4000000 in
theorem w_Mo_copyAt_b15 {p : Program} {l : Launch} {e : Env} {R : Room} {s : State} {m : MethodId} {args : Array Value} {below : List Frame} {meth : Method} {c : Code} {L : mm_L} {eo : Nat} {v : Int32} {g' : mm_M} {g : mm_M} {r0 : Nat} {x1 : Int32} {x2 : Int32} {u0 : Nat} {t1 : Int32} {H : Heap} {locs : List Loc} {ls : Array Slot} (hX : mm_X L prog_9_method_18_code 4 "LoanArrowsModel" none 2 46 p l R s m meth c) (h : f_Mo_copyAt_b15 L.1 g r0 x1 x2 u0 t1 = some (eo, v, g')) (hP : mm_P L g H) (hF : ∀ q ∈ locs, mm_F L q.base) (hl : lv_has ls 4 [(0, .ref (L.2.1 20 r0)), (1, .int x1), (2, .int x2)]) (hv_r0 : mm_lv L.1 20 r0) (hv_u0 : mm_lv L.1 20 u0) : W p l e R s m args below meth c H locs 0 0 (mm_Q below L s (mm_ov eo v) g') (F0 m 15 ls [.int t1, .ref (L.2.1 20 u0)]) := by
  have hX0 := hX
  obtain ⟨hx, hb, hml, hown, hr, hlk, hex, hRf, hRl, hRc, hRs, hJ, hK, hst, h00⟩ := hX0
  unfold f_Mo_copyAt_b15 at h
  refine lv_iload_n hx hb d_Mo_copyAt_15 rfl (lv_at hl 1 rfl) ?_
  rcases mm_bd_some h with ⟨z1, g2, hf3, h⟩ | ⟨xe, z1, g2, hf3, h⟩
  · refine mm_goR (v := (some (.int z1))) (mm_goS (As := [.int x1]) (rest := [.int t1, .ref (L.2.1 20 u0)]) hX (c_Mo_isCopy hf3) yw_Mo_isCopy wt_710 wt_711 wt_8 hP hF rfl hl.1 (Nat.le_of_ble_eq_true rfl) (by decide) (by decide) hRc hRs d_Mo_copyAt_16) hF (fun H locs hP hF _ => ?_)
    refine lv_if_eq (tgt := 35) hx hb d_Mo_copyAt_19 rfl (fun hc => ?_) (fun hc => ?_)
    · have h := mm_pos hc h
      exact w_Mo_copyAt_b35 hX h hP hF (lv_sub (l' := [(0, .ref (L.2.1 20 r0)), (1, .int x1), (2, .int x2)]) hl [0, 1, 2] rfl) hv_r0 hv_u0
    · have h := mm_neg hc h
      refine lv_aload_n hx hb d_Mo_copyAt_22 rfl (lv_at hl 0 rfl) ?_
      refine mm_get (h := 20) (i := r0) 4 hX hP hv_r0 rfl rfl uin_20 (by decide) ⟨rfl, rfl, rfl⟩ wt_616 rfl d_Mo_copyAt_23 ?_
      refine lv_iload_n hx hb d_Mo_copyAt_26 rfl (lv_at hl 1 rfl) ?_
      obtain ⟨hin, h⟩ := mm_ix_some h
      refine mm_zald (h := 23) (i := 0) hX hP mm_ls23 (fun _ => rfl) rfl hin d_Mo_copyAt_27 ?_
      refine lv_if_eq (tgt := 35) hx hb d_Mo_copyAt_28 rfl (fun hc => ?_) (fun hc => ?_)
      · have h := mm_pos hc h
        exact w_Mo_copyAt_b35 hX h hP hF (lv_sub (l' := [(0, .ref (L.2.1 20 r0)), (1, .int x1), (2, .int x2)]) hl [0, 1, 2] rfl) hv_r0 hv_u0
      · have h := mm_neg hc h
        refine lv_iconst (v := 1) hx hb d_Mo_copyAt_31 (by decide) ?_
        refine lv_goto (tgt := 36) hx hb d_Mo_copyAt_32 rfl ?_
        exact w_Mo_copyAt_b36 hX h hP hF (lv_sub (l' := [(0, .ref (L.2.1 20 r0)), (1, .int x1), (2, .int x2)]) hl [0, 1, 2] rfl) hv_r0 hv_u0
  · cases h
    exact mm_goT (x := xe + 1) (mm_goS (As := [.int x1]) (rest := [.int t1, .ref (L.2.1 20 u0)]) hX (c_Mo_isCopy hf3) yw_Mo_isCopy wt_710 wt_711 wt_8 hP hF rfl hl.1 (Nat.le_of_ble_eq_true rfl) (by decide) (by decide) hRc hRs d_Mo_copyAt_16) hF hex hlk
def f_Mo_copyAt (n : Nat) (g : mm_M) (r0 : Nat) (x1 : Int32) (x2 : Int32) : Option (Nat × Int32 × mm_M) :=
  mm_bd (f_Mo_isPair n g r0 x2 x1) 0 (fun z1 g2 => (if z1 = 0 then f_Mo_copyAt_b15 n g2 r0 x1 x2 r0 1 else f_Mo_copyAt_b15 n g2 r0 x1 x2 r0 0))
set_option maxRecDepth 100000 in
set_option maxHeartbeats 4000000 in
theorem w_Mo_copyAt {p : Program} {l : Launch} {e : Env} {R : Room} {s : State} {m : MethodId} {args : Array Value} {below : List Frame} {meth : Method} {c : Code} {L : mm_L} {eo : Nat} {v : Int32} {g' : mm_M} {g : mm_M} {r0 : Nat} {x1 : Int32} {x2 : Int32} {H : Heap} {locs : List Loc} {ls : Array Slot} (hX : mm_X L prog_9_method_18_code 4 "LoanArrowsModel" none 2 46 p l R s m meth c) (h : f_Mo_copyAt L.1 g r0 x1 x2 = some (eo, v, g')) (hP : mm_P L g H) (hF : ∀ q ∈ locs, mm_F L q.base) (hl : lv_has ls 4 [(0, .ref (L.2.1 20 r0)), (1, .int x1), (2, .int x2)]) (hv_r0 : mm_lv L.1 20 r0) : W p l e R s m args below meth c H locs 0 0 (mm_Q below L s (mm_ov eo v) g') (F0 m 0 ls []) := by
  have hX0 := hX
  obtain ⟨hx, hb, hml, hown, hr, hlk, hex, hRf, hRl, hRc, hRs, hJ, hK, hst, h00⟩ := hX0
  unfold f_Mo_copyAt at h
  refine lv_aload_n hx hb d_Mo_copyAt_0 rfl (lv_at hl 0 rfl) ?_
  refine lv_aload_n hx hb d_Mo_copyAt_1 rfl (lv_at hl 0 rfl) ?_
  refine lv_iload_n hx hb d_Mo_copyAt_2 rfl (lv_at hl 2 rfl) ?_
  refine lv_iload_n hx hb d_Mo_copyAt_3 rfl (lv_at hl 1 rfl) ?_
  rcases mm_bd_some h with ⟨z1, g2, hf3, h⟩ | ⟨xe, z1, g2, hf3, h⟩
  · refine mm_goR (v := (some (.int z1))) (mm_goV (As := [.int x2, .int x1]) (rest := [.ref (L.2.1 20 r0)]) hX (c_Mo_isPair hv_r0 hf3) yw_Mo_isPair wt_702 wt_704 ws_0_11 hP hF (mm_recv (h := 20) (i := r0) hX hP hv_r0 rfl rfl) rfl hl.1 (Nat.le_of_ble_eq_true rfl) (by decide) (by decide) hRc hRs d_Mo_copyAt_4) hF (fun H locs hP hF _ => ?_)
    refine lv_if_ne (tgt := 14) hx hb d_Mo_copyAt_7 rfl (fun hc => ?_) (fun hc => ?_)
    · have h := mm_neg hc h
      refine lv_iconst (v := 0) hx hb d_Mo_copyAt_14 (by decide) ?_
      exact w_Mo_copyAt_b15 hX h hP hF (lv_sub (l' := [(0, .ref (L.2.1 20 r0)), (1, .int x1), (2, .int x2)]) hl [0, 1, 2] rfl) hv_r0 hv_r0
    · have h := mm_pos hc h
      refine lv_iconst (v := 1) hx hb d_Mo_copyAt_10 (by decide) ?_
      refine lv_goto (tgt := 15) hx hb d_Mo_copyAt_11 rfl ?_
      exact w_Mo_copyAt_b15 hX h hP hF (lv_sub (l' := [(0, .ref (L.2.1 20 r0)), (1, .int x1), (2, .int x2)]) hl [0, 1, 2] rfl) hv_r0 hv_r0
  · cases h
    exact mm_goT (x := xe + 1) (mm_goV (As := [.int x2, .int x1]) (rest := [.ref (L.2.1 20 r0)]) hX (c_Mo_isPair hv_r0 hf3) yw_Mo_isPair wt_702 wt_704 ws_0_11 hP hF (mm_recv (h := 20) (i := r0) hX hP hv_r0 rfl rfl) rfl hl.1 (Nat.le_of_ble_eq_true rfl) (by decide) (by decide) hRc hRs d_Mo_copyAt_4) hF hex hlk
set_option maxRecDepth 100000 in
set_option maxHeartbeats 4000000 in
theorem c_Mo_copyAt {l : Launch} {L : mm_L} {g g' : mm_M} {eo : Nat} {v : Int32} {r0 : Nat} {x1 : Int32} {x2 : Int32} (hv_r0 : mm_lv L.1 20 r0) (h : f_Mo_copyAt L.1 g r0 x1 x2 = some (eo, v, g')) : mm_C l y_Mo_copyAt prog_9_method_18_code 4 none 2 46 L [.ref (L.2.1 20 r0), .int x1, .int x2] g (mm_ov eo v) g' := by
  intro p e R s m below meth c hX hP
  refine mm_enter (Nat.le_of_ble_eq_true rfl) fun ls hl => ?_
  exact w_Mo_copyAt hX h hP (fun q hq => by cases hq) (lv_sub (l' := [(0, .ref (L.2.1 20 r0)), (1, .int x1), (2, .int x2)]) hl [0, 1, 2] rfl) hv_r0
def f_Mo_isQueued_l5 (n : Nat) : Nat → mm_M → Nat → Int32 → Int32 → Int32 → Int32 → Option (Nat × Int32 × mm_M)
  | 0, _, _, _, _, _, _ => none
  | k + 1, g, r0, x1, x2, x3, x4 => mm_ix x1 36 ((if (g 28 0 x1.toNatClampNeg) ≤ x4 then mm_nz x3 (some (0, x3, g)) else (if x3 = 0 then mm_ix ((4 * x1) + x4) 144 ((if (g 29 0 ((4 * x1) + x4).toNatClampNeg) = x2 then f_Mo_isQueued_l5 n k g r0 x1 x2 1 (x4 + 1) else f_Mo_isQueued_l5 n k g r0 x1 x2 0 (x4 + 1))) else f_Mo_isQueued_l5 n k g r0 x1 x2 1 (x4 + 1))))
set_option maxRecDepth 100000 in
set_option maxHeartbeats 4000000 in
theorem w_Mo_isQueued_l5 {p : Program} {l : Launch} {e : Env} {R : Room} {s : State} {m : MethodId} {args : Array Value} {below : List Frame} {meth : Method} {c : Code} {L : mm_L} {eo : Nat} {v : Int32} {g' : mm_M} (hX : mm_X L prog_9_method_19_code 5 "LoanArrowsModel" (some .boolean) 0 0 p l R s m meth c) : ∀ (k : Nat) (g : mm_M) (r0 : Nat) (x1 : Int32) (x2 : Int32) (x3 : Int32) (x4 : Int32) (H : Heap) (locs : List Loc) (ls : Array Slot), f_Mo_isQueued_l5 L.1 k g r0 x1 x2 x3 x4 = some (eo, v, g') → mm_P L g H → (∀ q ∈ locs, mm_F L q.base) → lv_has ls 5 [(0, .ref (L.2.1 20 r0)), (1, .int x1), (2, .int x2), (3, .int x3), (4, .int x4)] → mm_lv L.1 20 r0 → W p l e R s m args below meth c H locs 0 0 (mm_Q below L s (mm_oi eo v) g') (F0 m 5 ls []) := by
  have hX0 := hX
  obtain ⟨hx, hb, hml, hown, hr, hlk, hex, hRf, hRl, hRc, hRs, hJ, hK, hst, h00⟩ := hX0
  intro k
  induction k with
  | zero =>
    intro g r0 x1 x2 x3 x4 H locs ls h hP hF hl hv_r0
    rw [f_Mo_isQueued_l5] at h
    cases h
  | succ k ih =>
    intro g r0 x1 x2 x3 x4 H locs ls h hP hF hl hv_r0
    rw [f_Mo_isQueued_l5] at h
    refine lv_iload hx hb d_Mo_isQueued_5 (lv_at hl 4 rfl) ?_
    refine lv_aload_n hx hb d_Mo_isQueued_7 rfl (lv_at hl 0 rfl) ?_
    refine mm_get (h := 20) (i := r0) 9 hX hP hv_r0 rfl rfl uin_20 (by decide) ⟨rfl, rfl, rfl⟩ wt_621 rfl d_Mo_isQueued_8 ?_
    refine lv_iload_n hx hb d_Mo_isQueued_11 rfl (lv_at hl 1 rfl) ?_
    obtain ⟨hin, h⟩ := mm_ix_some h
    refine mm_iald (h := 28) (i := 0) hX hP mm_ls28 (fun _ => rfl) rfl hin d_Mo_isQueued_12 ?_
    refine lv_icmp_ge (tgt := 47) hx hb d_Mo_isQueued_13 rfl (fun hc => ?_) (fun hc => ?_)
    · have h := mm_pos hc h
      refine lv_iload_n hx hb d_Mo_isQueued_47 rfl (lv_at hl 3 rfl) ?_
      obtain ⟨hn, h⟩ := mm_nz_some h
      cases h
      exact mm_zret hx hb hr hn hlk hP hF d_Mo_isQueued_48
    · have h := mm_neg hc h
      refine lv_iload_n hx hb d_Mo_isQueued_16 rfl (lv_at hl 3 rfl) ?_
      refine lv_if_ne (tgt := 35) hx hb d_Mo_isQueued_17 rfl (fun hc => ?_) (fun hc => ?_)
      · have h := mm_neg hc h
        refine lv_iconst (v := 1) hx hb d_Mo_isQueued_35 (by decide) ?_
        refine lv_goto (tgt := 40) hx hb d_Mo_isQueued_36 rfl ?_
        refine lv_istore_n hx hb d_Mo_isQueued_40 rfl hl (Nat.lt_of_lt_of_le (Nat.lt_succ_self _) (Nat.le_of_ble_eq_true rfl)) rfl (fun ls hl => ?_)
        have hl : lv_has ls 5 [(3, .int 1), (0, .ref (L.2.1 20 r0)), (1, .int x1), (2, .int x2), (4, .int x4)] := hl
        refine lv_iinc (k := 4) (v := (x4 + 1)) hx hb d_Mo_isQueued_41 hl rfl (congrArg (fun z => x4 + z) mm_i1) (Nat.lt_of_lt_of_le (Nat.lt_succ_self _) (Nat.le_of_ble_eq_true rfl)) rfl (fun ls hl => ?_)
        have hl : lv_has ls 5 [(4, .int (x4 + 1)), (3, .int 1), (0, .ref (L.2.1 20 r0)), (1, .int x1), (2, .int x2)] := hl
        refine lv_goto (tgt := 5) hx hb d_Mo_isQueued_44 rfl ?_
        exact ih _ _ _ _ _ _ _ _ _ h hP hF (lv_sub (l' := [(0, .ref (L.2.1 20 r0)), (1, .int x1), (2, .int x2), (3, .int 1), (4, .int (x4 + 1))]) hl [2, 3, 4, 1, 0] rfl) hv_r0
      · have h := mm_pos hc h
        refine lv_aload_n hx hb d_Mo_isQueued_20 rfl (lv_at hl 0 rfl) ?_
        refine mm_get (h := 20) (i := r0) 10 hX hP hv_r0 rfl rfl uin_20 (by decide) ⟨rfl, rfl, rfl⟩ wt_622 rfl d_Mo_isQueued_21 ?_
        refine lv_iconst (v := 4) hx hb d_Mo_isQueued_24 (by decide) ?_
        refine lv_iload_n hx hb d_Mo_isQueued_25 rfl (lv_at hl 1 rfl) ?_
        refine lv_imul hx hb d_Mo_isQueued_26 ?_
        refine lv_iload hx hb d_Mo_isQueued_27 (lv_at hl 4 rfl) ?_
        refine lv_iadd hx hb d_Mo_isQueued_29 ?_
        obtain ⟨hin, h⟩ := mm_ix_some h
        refine mm_iald (h := 29) (i := 0) hX hP mm_ls29 (fun _ => rfl) rfl hin d_Mo_isQueued_30 ?_
        refine lv_iload_n hx hb d_Mo_isQueued_31 rfl (lv_at hl 2 rfl) ?_
        refine lv_icmp_ne (tgt := 39) hx hb d_Mo_isQueued_32 rfl (fun hc => ?_) (fun hc => ?_)
        · have h := mm_neg hc h
          refine lv_iconst (v := 0) hx hb d_Mo_isQueued_39 (by decide) ?_
          refine lv_istore_n hx hb d_Mo_isQueued_40 rfl hl (Nat.lt_of_lt_of_le (Nat.lt_succ_self _) (Nat.le_of_ble_eq_true rfl)) rfl (fun ls hl => ?_)
          have hl : lv_has ls 5 [(3, .int 0), (0, .ref (L.2.1 20 r0)), (1, .int x1), (2, .int x2), (4, .int x4)] := hl
          refine lv_iinc (k := 4) (v := (x4 + 1)) hx hb d_Mo_isQueued_41 hl rfl (congrArg (fun z => x4 + z) mm_i1) (Nat.lt_of_lt_of_le (Nat.lt_succ_self _) (Nat.le_of_ble_eq_true rfl)) rfl (fun ls hl => ?_)
          have hl : lv_has ls 5 [(4, .int (x4 + 1)), (3, .int 0), (0, .ref (L.2.1 20 r0)), (1, .int x1), (2, .int x2)] := hl
          refine lv_goto (tgt := 5) hx hb d_Mo_isQueued_44 rfl ?_
          exact ih _ _ _ _ _ _ _ _ _ h hP hF (lv_sub (l' := [(0, .ref (L.2.1 20 r0)), (1, .int x1), (2, .int x2), (3, .int 0), (4, .int (x4 + 1))]) hl [2, 3, 4, 1, 0] rfl) hv_r0
        · have h := mm_pos hc h
          refine lv_iconst (v := 1) hx hb d_Mo_isQueued_35 (by decide) ?_
          refine lv_goto (tgt := 40) hx hb d_Mo_isQueued_36 rfl ?_
          refine lv_istore_n hx hb d_Mo_isQueued_40 rfl hl (Nat.lt_of_lt_of_le (Nat.lt_succ_self _) (Nat.le_of_ble_eq_true rfl)) rfl (fun ls hl => ?_)
          have hl : lv_has ls 5 [(3, .int 1), (0, .ref (L.2.1 20 r0)), (1, .int x1), (2, .int x2), (4, .int x4)] := hl
          refine lv_iinc (k := 4) (v := (x4 + 1)) hx hb d_Mo_isQueued_41 hl rfl (congrArg (fun z => x4 + z) mm_i1) (Nat.lt_of_lt_of_le (Nat.lt_succ_self _) (Nat.le_of_ble_eq_true rfl)) rfl (fun ls hl => ?_)
          have hl : lv_has ls 5 [(4, .int (x4 + 1)), (3, .int 1), (0, .ref (L.2.1 20 r0)), (1, .int x1), (2, .int x2)] := hl
          refine lv_goto (tgt := 5) hx hb d_Mo_isQueued_44 rfl ?_
          exact ih _ _ _ _ _ _ _ _ _ h hP hF (lv_sub (l' := [(0, .ref (L.2.1 20 r0)), (1, .int x1), (2, .int x2), (3, .int 1), (4, .int (x4 + 1))]) hl [2, 3, 4, 1, 0] rfl) hv_r0
def f_Mo_isQueued (n : Nat) (g : mm_M) (r0 : Nat) (x1 : Int32) (x2 : Int32) : Option (Nat × Int32 × mm_M) :=
  f_Mo_isQueued_l5 n 4096 g r0 x1 x2 0 0
set_option maxRecDepth 100000 in
set_option maxHeartbeats 4000000 in
theorem w_Mo_isQueued {p : Program} {l : Launch} {e : Env} {R : Room} {s : State} {m : MethodId} {args : Array Value} {below : List Frame} {meth : Method} {c : Code} {L : mm_L} {eo : Nat} {v : Int32} {g' : mm_M} {g : mm_M} {r0 : Nat} {x1 : Int32} {x2 : Int32} {H : Heap} {locs : List Loc} {ls : Array Slot} (hX : mm_X L prog_9_method_19_code 5 "LoanArrowsModel" (some .boolean) 0 0 p l R s m meth c) (h : f_Mo_isQueued L.1 g r0 x1 x2 = some (eo, v, g')) (hP : mm_P L g H) (hF : ∀ q ∈ locs, mm_F L q.base) (hl : lv_has ls 5 [(0, .ref (L.2.1 20 r0)), (1, .int x1), (2, .int x2)]) (hv_r0 : mm_lv L.1 20 r0) : W p l e R s m args below meth c H locs 0 0 (mm_Q below L s (mm_oi eo v) g') (F0 m 0 ls []) := by
  have hX0 := hX
  obtain ⟨hx, hb, hml, hown, hr, hlk, hex, hRf, hRl, hRc, hRs, hJ, hK, hst, h00⟩ := hX0
  unfold f_Mo_isQueued at h
  refine lv_iconst (v := 0) hx hb d_Mo_isQueued_0 (by decide) ?_
  refine lv_istore_n hx hb d_Mo_isQueued_1 rfl hl (Nat.lt_of_lt_of_le (Nat.lt_succ_self _) (Nat.le_of_ble_eq_true rfl)) rfl (fun ls hl => ?_)
  have hl : lv_has ls 5 [(3, .int 0), (0, .ref (L.2.1 20 r0)), (1, .int x1), (2, .int x2)] := hl
  refine lv_iconst (v := 0) hx hb d_Mo_isQueued_2 (by decide) ?_
  refine lv_istore hx hb d_Mo_isQueued_3 hl (Nat.lt_of_lt_of_le (Nat.lt_succ_self _) (Nat.le_of_ble_eq_true rfl)) rfl (fun ls hl => ?_)
  have hl : lv_has ls 5 [(4, .int 0), (3, .int 0), (0, .ref (L.2.1 20 r0)), (1, .int x1), (2, .int x2)] := hl
  exact w_Mo_isQueued_l5 hX _ _ _ _ _ _ _ _ _ _ h hP hF (lv_sub (l' := [(0, .ref (L.2.1 20 r0)), (1, .int x1), (2, .int x2), (3, .int 0), (4, .int 0)]) hl [2, 3, 4, 1, 0] rfl) hv_r0
set_option maxRecDepth 100000 in
set_option maxHeartbeats 4000000 in
theorem c_Mo_isQueued {l : Launch} {L : mm_L} {g g' : mm_M} {eo : Nat} {v : Int32} {r0 : Nat} {x1 : Int32} {x2 : Int32} (hv_r0 : mm_lv L.1 20 r0) (h : f_Mo_isQueued L.1 g r0 x1 x2 = some (eo, v, g')) : mm_C l y_Mo_isQueued prog_9_method_19_code 5 (some .boolean) 0 0 L [.ref (L.2.1 20 r0), .int x1, .int x2] g (mm_oi eo v) g' := by
  intro p e R s m below meth c hX hP
  refine mm_enter (Nat.le_of_ble_eq_true rfl) fun ls hl => ?_
  exact w_Mo_isQueued hX h hP (fun q hq => by cases hq) (lv_sub (l' := [(0, .ref (L.2.1 20 r0)), (1, .int x1), (2, .int x2)]) hl [0, 1, 2] rfl) hv_r0
def f_Mo_want_b103 (n : Nat) (g : mm_M) (r0 : Nat) (x1 : Int32) (x2 : Int32) (x3 : Int32) (x5 : Int32) (x6 : Int32) (u0 : Nat) (t1 : Int32) (t2 : Int32) : Option (Nat × Int32 × mm_M) :=
  mm_bd (f_Mo_refused n g u0 t1 t2 x6) 0 (fun z1 g2 => (if z1 = 0 then mm_ix x5 36 (mm_ix ((4 * x5) + (g2 28 0 x5.toNatClampNeg)) 144 (mm_let (mm_st g2 29 0 ((4 * x5) + (g2 28 0 x5.toNatClampNeg)).toNatClampNeg x3) (fun g4 => mm_ix x5 36 (mm_ix x5 36 (mm_let (mm_st g4 28 0 x5.toNatClampNeg ((g4 28 0 x5.toNatClampNeg) + 1)) (fun g6 => mm_bd (f_Mo_opn n g6 r0 x1 x2) 0 (fun z8 g9 => mm_ix x5 36 (some (0, (g9 26 0 x5.toNatClampNeg), g9))))))))) else some (0, 0, g2)))
set_option maxRecDepth 100000 in
set_option maxHeartbeats 4000000 in
theorem w_Mo_want_b103 {p : Program} {l : Launch} {e : Env} {R : Room} {s : State} {m : MethodId} {args : Array Value} {below : List Frame} {meth : Method} {c : Code} {L : mm_L} {eo : Nat} {v : Int32} {g' : mm_M} {g : mm_M} {r0 : Nat} {x1 : Int32} {x2 : Int32} {x3 : Int32} {x5 : Int32} {x6 : Int32} {u0 : Nat} {t1 : Int32} {t2 : Int32} {H : Heap} {locs : List Loc} {ls : Array Slot} (hX : mm_X L prog_9_method_20_code 7 "LoanArrowsModel" (some .int) 4 100 p l R s m meth c) (h : f_Mo_want_b103 L.1 g r0 x1 x2 x3 x5 x6 u0 t1 t2 = some (eo, v, g')) (hP : mm_P L g H) (hF : ∀ q ∈ locs, mm_F L q.base) (hl : lv_has ls 7 [(0, .ref (L.2.1 20 r0)), (1, .int x1), (2, .int x2), (3, .int x3), (5, .int x5), (6, .int x6)]) (hv_r0 : mm_lv L.1 20 r0) (hv_u0 : mm_lv L.1 20 u0) : W p l e R s m args below meth c H locs 0 0 (mm_Q below L s (mm_oi eo v) g') (F0 m 103 ls [.int t2, .int t1, .ref (L.2.1 20 u0)]) := by
  have hX0 := hX
  obtain ⟨hx, hb, hml, hown, hr, hlk, hex, hRf, hRl, hRc, hRs, hJ, hK, hst, h00⟩ := hX0
  unfold f_Mo_want_b103 at h
  refine lv_iload hx hb d_Mo_want_103 (lv_at hl 5 rfl) ?_
  rcases mm_bd_some h with ⟨z1, g2, hf3, h⟩ | ⟨xe, z1, g2, hf3, h⟩
  · refine mm_goR (v := (some (.int z1))) (mm_goV (As := [.int t1, .int t2, .int x6]) (rest := []) hX (c_Mo_refused hv_u0 hf3) yw_Mo_refused wt_713 wt_715 ws_0_13 hP hF (mm_recv (h := 20) (i := u0) hX hP hv_u0 rfl rfl) rfl hl.1 (Nat.le_of_ble_eq_true rfl) (by decide) (by decide) hRc hRs d_Mo_want_105) hF (fun H locs hP hF _ => ?_)
    refine lv_if_eq (tgt := 113) hx hb d_Mo_want_108 rfl (fun hc => ?_) (fun hc => ?_)
    · have h := mm_pos hc h
      refine lv_aload_n hx hb d_Mo_want_113 rfl (lv_at hl 0 rfl) ?_
      refine mm_get (h := 20) (i := r0) 10 hX hP hv_r0 rfl rfl uin_20 (by decide) ⟨rfl, rfl, rfl⟩ wt_622 rfl d_Mo_want_114 ?_
      refine lv_iconst (v := 4) hx hb d_Mo_want_117 (by decide) ?_
      refine lv_iload hx hb d_Mo_want_118 (lv_at hl 4 rfl) ?_
      refine lv_imul hx hb d_Mo_want_120 ?_
      refine lv_aload_n hx hb d_Mo_want_121 rfl (lv_at hl 0 rfl) ?_
      refine mm_get (h := 20) (i := r0) 9 hX hP hv_r0 rfl rfl uin_20 (by decide) ⟨rfl, rfl, rfl⟩ wt_621 rfl d_Mo_want_122 ?_
      refine lv_iload hx hb d_Mo_want_125 (lv_at hl 4 rfl) ?_
      obtain ⟨hin, h⟩ := mm_ix_some h
      refine mm_iald (h := 28) (i := 0) hX hP mm_ls28 (fun _ => rfl) rfl hin d_Mo_want_127 ?_
      refine lv_iadd hx hb d_Mo_want_128 ?_
      refine lv_iload_n hx hb d_Mo_want_129 rfl (lv_at hl 3 rfl) ?_
      obtain ⟨hin, h⟩ := mm_ix_some h
      refine mm_iast (h := 29) (i := 0) hX hP hF mm_ls29 (fun _ => rfl) rfl hin d_Mo_want_130 (fun H locs hP hF => ?_)
      obtain ⟨g4, e5, h⟩ := mm_let_ex h
      have hP : mm_P L g4 H := by rw [e5]; exact hP
      refine lv_aload_n hx hb d_Mo_want_131 rfl (lv_at hl 0 rfl) ?_
      refine mm_get (h := 20) (i := r0) 9 hX hP hv_r0 rfl rfl uin_20 (by decide) ⟨rfl, rfl, rfl⟩ wt_621 rfl d_Mo_want_132 ?_
      refine lv_iload hx hb d_Mo_want_135 (lv_at hl 4 rfl) ?_
      refine lv_dup2_11 hx hb d_Mo_want_137 rfl rfl ?_
      obtain ⟨hin, h⟩ := mm_ix_some h
      refine mm_iald (h := 28) (i := 0) hX hP mm_ls28 (fun _ => rfl) rfl hin d_Mo_want_138 ?_
      refine lv_iconst (v := 1) hx hb d_Mo_want_139 (by decide) ?_
      refine lv_iadd hx hb d_Mo_want_140 ?_
      obtain ⟨hin, h⟩ := mm_ix_some h
      refine mm_iast (h := 28) (i := 0) hX hP hF mm_ls28 (fun _ => rfl) rfl hin d_Mo_want_141 (fun H locs hP hF => ?_)
      obtain ⟨g6, e7, h⟩ := mm_let_ex h
      have hP : mm_P L g6 H := by rw [e7]; exact hP
      refine lv_aload_n hx hb d_Mo_want_142 rfl (lv_at hl 0 rfl) ?_
      refine lv_iload_n hx hb d_Mo_want_143 rfl (lv_at hl 1 rfl) ?_
      refine lv_iload_n hx hb d_Mo_want_144 rfl (lv_at hl 2 rfl) ?_
      rcases mm_bd_some h with ⟨z8, g9, hf10, h⟩ | ⟨xe, z8, g9, hf10, h⟩
      · refine mm_goR (v := none) (mm_goV (As := [.int x1, .int x2]) (rest := []) hX (c_Mo_opn hv_r0 hf10) yw_Mo_opn wt_736 wt_738 ws_1_1 hP hF (mm_recv (h := 20) (i := r0) hX hP hv_r0 rfl rfl) rfl hl.1 (Nat.le_of_ble_eq_true rfl) (by decide) (by decide) hRc hRs d_Mo_want_145) hF (fun H locs hP hF _ => ?_)
        refine lv_aload_n hx hb d_Mo_want_148 rfl (lv_at hl 0 rfl) ?_
        refine mm_get (h := 20) (i := r0) 7 hX hP hv_r0 rfl rfl uin_20 (by decide) ⟨rfl, rfl, rfl⟩ wt_619 rfl d_Mo_want_149 ?_
        refine lv_iload hx hb d_Mo_want_152 (lv_at hl 4 rfl) ?_
        obtain ⟨hin, h⟩ := mm_ix_some h
        refine mm_iald (h := 26) (i := 0) hX hP mm_ls26 (fun _ => rfl) rfl hin d_Mo_want_154 ?_
        cases h
        exact mm_iret hx hb hr hlk hP hF d_Mo_want_155
      · cases h
        exact mm_goT (x := xe + 1) (mm_goV (As := [.int x1, .int x2]) (rest := []) hX (c_Mo_opn hv_r0 hf10) yw_Mo_opn wt_736 wt_738 ws_1_1 hP hF (mm_recv (h := 20) (i := r0) hX hP hv_r0 rfl rfl) rfl hl.1 (Nat.le_of_ble_eq_true rfl) (by decide) (by decide) hRc hRs d_Mo_want_145) hF hex hlk
    · have h := mm_neg hc h
      refine lv_iconst (v := 0) hx hb d_Mo_want_111 (by decide) ?_
      cases h
      exact mm_iret hx hb hr hlk hP hF d_Mo_want_112
  · cases h
    exact mm_goT (x := xe + 1) (mm_goV (As := [.int t1, .int t2, .int x6]) (rest := []) hX (c_Mo_refused hv_u0 hf3) yw_Mo_refused wt_713 wt_715 ws_0_13 hP hF (mm_recv (h := 20) (i := u0) hX hP hv_u0 rfl rfl) rfl hl.1 (Nat.le_of_ble_eq_true rfl) (by decide) (by decide) hRc hRs d_Mo_want_105) hF hex hlk
def f_Mo_want_b98 (n : Nat) (g : mm_M) (r0 : Nat) (x1 : Int32) (x2 : Int32) (x3 : Int32) (x5 : Int32) (x6 : Int32) (u0 : Nat) (t1 : Int32) : Option (Nat × Int32 × mm_M) :=
  f_Mo_want_b103 n g r0 x1 x2 x3 x5 x6 u0 t1 1
set_option maxRecDepth 100000 in
set_option maxHeartbeats 4000000 in
theorem w_Mo_want_b98 {p : Program} {l : Launch} {e : Env} {R : Room} {s : State} {m : MethodId} {args : Array Value} {below : List Frame} {meth : Method} {c : Code} {L : mm_L} {eo : Nat} {v : Int32} {g' : mm_M} {g : mm_M} {r0 : Nat} {x1 : Int32} {x2 : Int32} {x3 : Int32} {x5 : Int32} {x6 : Int32} {u0 : Nat} {t1 : Int32} {H : Heap} {locs : List Loc} {ls : Array Slot} (hX : mm_X L prog_9_method_20_code 7 "LoanArrowsModel" (some .int) 4 100 p l R s m meth c) (h : f_Mo_want_b98 L.1 g r0 x1 x2 x3 x5 x6 u0 t1 = some (eo, v, g')) (hP : mm_P L g H) (hF : ∀ q ∈ locs, mm_F L q.base) (hl : lv_has ls 7 [(0, .ref (L.2.1 20 r0)), (1, .int x1), (2, .int x2), (3, .int x3), (5, .int x5), (6, .int x6)]) (hv_r0 : mm_lv L.1 20 r0) (hv_u0 : mm_lv L.1 20 u0) : W p l e R s m args below meth c H locs 0 0 (mm_Q below L s (mm_oi eo v) g') (F0 m 98 ls [.int t1, .ref (L.2.1 20 u0)]) := by
  have hX0 := hX
  obtain ⟨hx, hb, hml, hown, hr, hlk, hex, hRf, hRl, hRc, hRs, hJ, hK, hst, h00⟩ := hX0
  unfold f_Mo_want_b98 at h
  refine lv_iconst (v := 1) hx hb d_Mo_want_98 (by decide) ?_
  refine lv_goto (tgt := 103) hx hb d_Mo_want_99 rfl ?_
  exact w_Mo_want_b103 hX h hP hF (lv_sub (l' := [(0, .ref (L.2.1 20 r0)), (1, .int x1), (2, .int x2), (3, .int x3), (5, .int x5), (6, .int x6)]) hl [0, 1, 2, 3, 4, 5] rfl) hv_r0 hv_u0
def f_Mo_want_b81 (n : Nat) (g : mm_M) (r0 : Nat) (x1 : Int32) (x2 : Int32) (x3 : Int32) (x4 : Int32) (x5 : Int32) (t0 : Int32) : Option (Nat × Int32 × mm_M) :=
  (if x3 < 1 then f_Mo_want_b98 n g r0 x1 x2 x3 x5 t0 r0 x4 else (if x3 ≤ 1000 then f_Mo_want_b103 n g r0 x1 x2 x3 x5 t0 r0 x4 0 else f_Mo_want_b98 n g r0 x1 x2 x3 x5 t0 r0 x4))
set_option maxRecDepth 100000 in
set_option maxHeartbeats 4000000 in
theorem w_Mo_want_b81 {p : Program} {l : Launch} {e : Env} {R : Room} {s : State} {m : MethodId} {args : Array Value} {below : List Frame} {meth : Method} {c : Code} {L : mm_L} {eo : Nat} {v : Int32} {g' : mm_M} {g : mm_M} {r0 : Nat} {x1 : Int32} {x2 : Int32} {x3 : Int32} {x4 : Int32} {x5 : Int32} {t0 : Int32} {H : Heap} {locs : List Loc} {ls : Array Slot} (hX : mm_X L prog_9_method_20_code 7 "LoanArrowsModel" (some .int) 4 100 p l R s m meth c) (h : f_Mo_want_b81 L.1 g r0 x1 x2 x3 x4 x5 t0 = some (eo, v, g')) (hP : mm_P L g H) (hF : ∀ q ∈ locs, mm_F L q.base) (hl : lv_has ls 7 [(0, .ref (L.2.1 20 r0)), (1, .int x1), (2, .int x2), (3, .int x3), (4, .int x4), (5, .int x5)]) (hv_r0 : mm_lv L.1 20 r0) : W p l e R s m args below meth c H locs 0 0 (mm_Q below L s (mm_oi eo v) g') (F0 m 81 ls [.int t0]) := by
  have hX0 := hX
  obtain ⟨hx, hb, hml, hown, hr, hlk, hex, hRf, hRl, hRc, hRs, hJ, hK, hst, h00⟩ := hX0
  unfold f_Mo_want_b81 at h
  refine lv_istore hx hb d_Mo_want_81 hl (Nat.lt_of_lt_of_le (Nat.lt_succ_self _) (Nat.le_of_ble_eq_true rfl)) rfl (fun ls hl => ?_)
  have hl : lv_has ls 7 [(6, .int t0), (0, .ref (L.2.1 20 r0)), (1, .int x1), (2, .int x2), (3, .int x3), (4, .int x4), (5, .int x5)] := hl
  refine lv_aload_n hx hb d_Mo_want_83 rfl (lv_at hl 1 rfl) ?_
  refine lv_iload hx hb d_Mo_want_84 (lv_at hl 5 rfl) ?_
  refine lv_iload_n hx hb d_Mo_want_86 rfl (lv_at hl 4 rfl) ?_
  refine lv_iconst (v := 1) hx hb d_Mo_want_87 (by decide) ?_
  refine lv_icmp_lt (tgt := 98) hx hb d_Mo_want_88 rfl (fun hc => ?_) (fun hc => ?_)
  · have h := mm_pos hc h
    exact w_Mo_want_b98 hX h hP hF (lv_sub (l' := [(0, .ref (L.2.1 20 r0)), (1, .int x1), (2, .int x2), (3, .int x3), (5, .int x5), (6, .int t0)]) hl [1, 2, 3, 4, 6, 0] rfl) hv_r0 hv_r0
  · have h := mm_neg hc h
    refine lv_iload_n hx hb d_Mo_want_91 rfl (lv_at hl 4 rfl) ?_
    refine lv_sipush (v := 1000) hx hb d_Mo_want_92 (by decide) ?_
    refine lv_icmp_le (tgt := 102) hx hb d_Mo_want_95 rfl (fun hc => ?_) (fun hc => ?_)
    · have h := mm_pos hc h
      refine lv_iconst (v := 0) hx hb d_Mo_want_102 (by decide) ?_
      exact w_Mo_want_b103 hX h hP hF (lv_sub (l' := [(0, .ref (L.2.1 20 r0)), (1, .int x1), (2, .int x2), (3, .int x3), (5, .int x5), (6, .int t0)]) hl [1, 2, 3, 4, 6, 0] rfl) hv_r0 hv_r0
    · have h := mm_neg hc h
      exact w_Mo_want_b98 hX h hP hF (lv_sub (l' := [(0, .ref (L.2.1 20 r0)), (1, .int x1), (2, .int x2), (3, .int x3), (5, .int x5), (6, .int t0)]) hl [1, 2, 3, 4, 6, 0] rfl) hv_r0 hv_r0
def f_Mo_want_b76 (n : Nat) (g : mm_M) (r0 : Nat) (x1 : Int32) (x2 : Int32) (x3 : Int32) (x4 : Int32) (x5 : Int32) : Option (Nat × Int32 × mm_M) :=
  f_Mo_want_b81 n g r0 x1 x2 x3 x4 x5 1
set_option maxRecDepth 100000 in
set_option maxHeartbeats 4000000 in
theorem w_Mo_want_b76 {p : Program} {l : Launch} {e : Env} {R : Room} {s : State} {m : MethodId} {args : Array Value} {below : List Frame} {meth : Method} {c : Code} {L : mm_L} {eo : Nat} {v : Int32} {g' : mm_M} {g : mm_M} {r0 : Nat} {x1 : Int32} {x2 : Int32} {x3 : Int32} {x4 : Int32} {x5 : Int32} {H : Heap} {locs : List Loc} {ls : Array Slot} (hX : mm_X L prog_9_method_20_code 7 "LoanArrowsModel" (some .int) 4 100 p l R s m meth c) (h : f_Mo_want_b76 L.1 g r0 x1 x2 x3 x4 x5 = some (eo, v, g')) (hP : mm_P L g H) (hF : ∀ q ∈ locs, mm_F L q.base) (hl : lv_has ls 7 [(0, .ref (L.2.1 20 r0)), (1, .int x1), (2, .int x2), (3, .int x3), (4, .int x4), (5, .int x5)]) (hv_r0 : mm_lv L.1 20 r0) : W p l e R s m args below meth c H locs 0 0 (mm_Q below L s (mm_oi eo v) g') (F0 m 76 ls []) := by
  have hX0 := hX
  obtain ⟨hx, hb, hml, hown, hr, hlk, hex, hRf, hRl, hRc, hRs, hJ, hK, hst, h00⟩ := hX0
  unfold f_Mo_want_b76 at h
  refine lv_iconst (v := 1) hx hb d_Mo_want_76 (by decide) ?_
  refine lv_goto (tgt := 81) hx hb d_Mo_want_77 rfl ?_
  exact w_Mo_want_b81 hX h hP hF (lv_sub (l' := [(0, .ref (L.2.1 20 r0)), (1, .int x1), (2, .int x2), (3, .int x3), (4, .int x4), (5, .int x5)]) hl [0, 1, 2, 3, 4, 5] rfl) hv_r0
def f_Mo_want_b80 (n : Nat) (g : mm_M) (r0 : Nat) (x1 : Int32) (x2 : Int32) (x3 : Int32) (x4 : Int32) (x5 : Int32) : Option (Nat × Int32 × mm_M) :=
  f_Mo_want_b81 n g r0 x1 x2 x3 x4 x5 0
set_option maxRecDepth 100000 in
set_option maxHeartbeats 4000000 in
theorem w_Mo_want_b80 {p : Program} {l : Launch} {e : Env} {R : Room} {s : State} {m : MethodId} {args : Array Value} {below : List Frame} {meth : Method} {c : Code} {L : mm_L} {eo : Nat} {v : Int32} {g' : mm_M} {g : mm_M} {r0 : Nat} {x1 : Int32} {x2 : Int32} {x3 : Int32} {x4 : Int32} {x5 : Int32} {H : Heap} {locs : List Loc} {ls : Array Slot} (hX : mm_X L prog_9_method_20_code 7 "LoanArrowsModel" (some .int) 4 100 p l R s m meth c) (h : f_Mo_want_b80 L.1 g r0 x1 x2 x3 x4 x5 = some (eo, v, g')) (hP : mm_P L g H) (hF : ∀ q ∈ locs, mm_F L q.base) (hl : lv_has ls 7 [(0, .ref (L.2.1 20 r0)), (1, .int x1), (2, .int x2), (3, .int x3), (4, .int x4), (5, .int x5)]) (hv_r0 : mm_lv L.1 20 r0) : W p l e R s m args below meth c H locs 0 0 (mm_Q below L s (mm_oi eo v) g') (F0 m 80 ls []) := by
  have hX0 := hX
  obtain ⟨hx, hb, hml, hown, hr, hlk, hex, hRf, hRl, hRc, hRs, hJ, hK, hst, h00⟩ := hX0
  unfold f_Mo_want_b80 at h
  refine lv_iconst (v := 0) hx hb d_Mo_want_80 (by decide) ?_
  exact w_Mo_want_b81 hX h hP hF (lv_sub (l' := [(0, .ref (L.2.1 20 r0)), (1, .int x1), (2, .int x2), (3, .int x3), (4, .int x4), (5, .int x5)]) hl [0, 1, 2, 3, 4, 5] rfl) hv_r0
def f_Mo_want_b30 (n : Nat) (g : mm_M) (r0 : Nat) (x1 : Int32) (x2 : Int32) (x3 : Int32) (x4 : Int32) (t0 : Int32) : Option (Nat × Int32 × mm_M) :=
  (if x4 = 0 then mm_ix x2 3 ((if (g 23 0 x2.toNatClampNeg) = 0 then f_Mo_want_b76 n g r0 x1 x2 x3 x4 t0 else mm_ix x1 12 ((if (g 22 0 x1.toNatClampNeg) = 0 then mm_ix t0 36 ((if (g 28 0 t0.toNatClampNeg) = 4 then f_Mo_want_b76 n g r0 x1 x2 x3 x4 t0 else mm_bd (f_Mo_isQueued n g r0 t0 x3) 0 (fun z1 g2 => (if z1 = 0 then f_Mo_want_b80 n g2 r0 x1 x2 x3 x4 t0 else f_Mo_want_b76 n g2 r0 x1 x2 x3 x4 t0)))) else f_Mo_want_b76 n g r0 x1 x2 x3 x4 t0)))) else f_Mo_want_b80 n g r0 x1 x2 x3 x4 t0)
set_option maxRecDepth 100000 in
set_option maxHeartbeats 4000000 in
theorem w_Mo_want_b30 {p : Program} {l : Launch} {e : Env} {R : Room} {s : State} {m : MethodId} {args : Array Value} {below : List Frame} {meth : Method} {c : Code} {L : mm_L} {eo : Nat} {v : Int32} {g' : mm_M} {g : mm_M} {r0 : Nat} {x1 : Int32} {x2 : Int32} {x3 : Int32} {x4 : Int32} {t0 : Int32} {H : Heap} {locs : List Loc} {ls : Array Slot} (hX : mm_X L prog_9_method_20_code 7 "LoanArrowsModel" (some .int) 4 100 p l R s m meth c) (h : f_Mo_want_b30 L.1 g r0 x1 x2 x3 x4 t0 = some (eo, v, g')) (hP : mm_P L g H) (hF : ∀ q ∈ locs, mm_F L q.base) (hl : lv_has ls 7 [(0, .ref (L.2.1 20 r0)), (1, .int x1), (2, .int x2), (3, .int x3), (4, .int x4)]) (hv_r0 : mm_lv L.1 20 r0) : W p l e R s m args below meth c H locs 0 0 (mm_Q below L s (mm_oi eo v) g') (F0 m 30 ls [.int t0]) := by
  have hX0 := hX
  obtain ⟨hx, hb, hml, hown, hr, hlk, hex, hRf, hRl, hRc, hRs, hJ, hK, hst, h00⟩ := hX0
  unfold f_Mo_want_b30 at h
  refine lv_istore hx hb d_Mo_want_30 hl (Nat.lt_of_lt_of_le (Nat.lt_succ_self _) (Nat.le_of_ble_eq_true rfl)) rfl (fun ls hl => ?_)
  have hl : lv_has ls 7 [(5, .int t0), (0, .ref (L.2.1 20 r0)), (1, .int x1), (2, .int x2), (3, .int x3), (4, .int x4)] := hl
  refine lv_iload hx hb d_Mo_want_32 (lv_at hl 5 rfl) ?_
  refine lv_if_ne (tgt := 80) hx hb d_Mo_want_34 rfl (fun hc => ?_) (fun hc => ?_)
  · have h := mm_neg hc h
    exact w_Mo_want_b80 hX h hP hF (lv_sub (l' := [(0, .ref (L.2.1 20 r0)), (1, .int x1), (2, .int x2), (3, .int x3), (4, .int x4), (5, .int t0)]) hl [1, 2, 3, 4, 5, 0] rfl) hv_r0
  · have h := mm_pos hc h
    refine lv_aload_n hx hb d_Mo_want_37 rfl (lv_at hl 1 rfl) ?_
    refine mm_get (h := 20) (i := r0) 4 hX hP hv_r0 rfl rfl uin_20 (by decide) ⟨rfl, rfl, rfl⟩ wt_616 rfl d_Mo_want_38 ?_
    refine lv_iload_n hx hb d_Mo_want_41 rfl (lv_at hl 3 rfl) ?_
    obtain ⟨hin, h⟩ := mm_ix_some h
    refine mm_zald (h := 23) (i := 0) hX hP mm_ls23 (fun _ => rfl) rfl hin d_Mo_want_42 ?_
    refine lv_if_eq (tgt := 76) hx hb d_Mo_want_43 rfl (fun hc => ?_) (fun hc => ?_)
    · have h := mm_pos hc h
      exact w_Mo_want_b76 hX h hP hF (lv_sub (l' := [(0, .ref (L.2.1 20 r0)), (1, .int x1), (2, .int x2), (3, .int x3), (4, .int x4), (5, .int t0)]) hl [1, 2, 3, 4, 5, 0] rfl) hv_r0
    · have h := mm_neg hc h
      refine lv_aload_n hx hb d_Mo_want_46 rfl (lv_at hl 1 rfl) ?_
      refine mm_get (h := 20) (i := r0) 3 hX hP hv_r0 rfl rfl uin_20 (by decide) ⟨rfl, rfl, rfl⟩ wt_615 rfl d_Mo_want_47 ?_
      refine lv_iload_n hx hb d_Mo_want_50 rfl (lv_at hl 2 rfl) ?_
      obtain ⟨hin, h⟩ := mm_ix_some h
      refine mm_zald (h := 22) (i := 0) hX hP mm_ls22 (fun _ => rfl) rfl hin d_Mo_want_51 ?_
      refine lv_if_ne (tgt := 76) hx hb d_Mo_want_52 rfl (fun hc => ?_) (fun hc => ?_)
      · have h := mm_neg hc h
        exact w_Mo_want_b76 hX h hP hF (lv_sub (l' := [(0, .ref (L.2.1 20 r0)), (1, .int x1), (2, .int x2), (3, .int x3), (4, .int x4), (5, .int t0)]) hl [1, 2, 3, 4, 5, 0] rfl) hv_r0
      · have h := mm_pos hc h
        refine lv_aload_n hx hb d_Mo_want_55 rfl (lv_at hl 1 rfl) ?_
        refine mm_get (h := 20) (i := r0) 9 hX hP hv_r0 rfl rfl uin_20 (by decide) ⟨rfl, rfl, rfl⟩ wt_621 rfl d_Mo_want_56 ?_
        refine lv_iload hx hb d_Mo_want_59 (lv_at hl 0 rfl) ?_
        obtain ⟨hin, h⟩ := mm_ix_some h
        refine mm_iald (h := 28) (i := 0) hX hP mm_ls28 (fun _ => rfl) rfl hin d_Mo_want_61 ?_
        refine lv_iconst (v := 4) hx hb d_Mo_want_62 (by decide) ?_
        refine lv_icmp_eq (tgt := 76) hx hb d_Mo_want_63 rfl (fun hc => ?_) (fun hc => ?_)
        · have h := mm_pos hc h
          exact w_Mo_want_b76 hX h hP hF (lv_sub (l' := [(0, .ref (L.2.1 20 r0)), (1, .int x1), (2, .int x2), (3, .int x3), (4, .int x4), (5, .int t0)]) hl [1, 2, 3, 4, 5, 0] rfl) hv_r0
        · have h := mm_neg hc h
          refine lv_aload_n hx hb d_Mo_want_66 rfl (lv_at hl 1 rfl) ?_
          refine lv_iload hx hb d_Mo_want_67 (lv_at hl 0 rfl) ?_
          refine lv_iload_n hx hb d_Mo_want_69 rfl (lv_at hl 4 rfl) ?_
          rcases mm_bd_some h with ⟨z1, g2, hf3, h⟩ | ⟨xe, z1, g2, hf3, h⟩
          · refine mm_goR (v := (some (.int z1))) (mm_goV (As := [.int t0, .int x3]) (rest := []) hX (c_Mo_isQueued hv_r0 hf3) yw_Mo_isQueued wt_732 wt_734 ws_1_0 hP hF (mm_recv (h := 20) (i := r0) hX hP hv_r0 rfl rfl) rfl hl.1 (Nat.le_of_ble_eq_true rfl) (by decide) (by decide) hRc hRs d_Mo_want_70) hF (fun H locs hP hF _ => ?_)
            refine lv_if_eq (tgt := 80) hx hb d_Mo_want_73 rfl (fun hc => ?_) (fun hc => ?_)
            · have h := mm_pos hc h
              exact w_Mo_want_b80 hX h hP hF (lv_sub (l' := [(0, .ref (L.2.1 20 r0)), (1, .int x1), (2, .int x2), (3, .int x3), (4, .int x4), (5, .int t0)]) hl [1, 2, 3, 4, 5, 0] rfl) hv_r0
            · have h := mm_neg hc h
              exact w_Mo_want_b76 hX h hP hF (lv_sub (l' := [(0, .ref (L.2.1 20 r0)), (1, .int x1), (2, .int x2), (3, .int x3), (4, .int x4), (5, .int t0)]) hl [1, 2, 3, 4, 5, 0] rfl) hv_r0
          · cases h
            exact mm_goT (x := xe + 1) (mm_goV (As := [.int t0, .int x3]) (rest := []) hX (c_Mo_isQueued hv_r0 hf3) yw_Mo_isQueued wt_732 wt_734 ws_1_0 hP hF (mm_recv (h := 20) (i := r0) hX hP hv_r0 rfl rfl) rfl hl.1 (Nat.le_of_ble_eq_true rfl) (by decide) (by decide) hRc hRs d_Mo_want_70) hF hex hlk
def f_Mo_want_b14 (n : Nat) (g : mm_M) (r0 : Nat) (x1 : Int32) (x2 : Int32) (x3 : Int32) (t0 : Int32) : Option (Nat × Int32 × mm_M) :=
  (if t0 = 0 then mm_bd (f_Mo_at n g x1 x2) 0 (fun z1 g2 => f_Mo_want_b30 n g2 r0 x1 x2 x3 t0 z1) else f_Mo_want_b30 n g r0 x1 x2 x3 t0 0)
set_option maxRecDepth 100000 in
set_option maxHeartbeats 4000000 in
theorem w_Mo_want_b14 {p : Program} {l : Launch} {e : Env} {R : Room} {s : State} {m : MethodId} {args : Array Value} {below : List Frame} {meth : Method} {c : Code} {L : mm_L} {eo : Nat} {v : Int32} {g' : mm_M} {g : mm_M} {r0 : Nat} {x1 : Int32} {x2 : Int32} {x3 : Int32} {t0 : Int32} {H : Heap} {locs : List Loc} {ls : Array Slot} (hX : mm_X L prog_9_method_20_code 7 "LoanArrowsModel" (some .int) 4 100 p l R s m meth c) (h : f_Mo_want_b14 L.1 g r0 x1 x2 x3 t0 = some (eo, v, g')) (hP : mm_P L g H) (hF : ∀ q ∈ locs, mm_F L q.base) (hl : lv_has ls 7 [(0, .ref (L.2.1 20 r0)), (1, .int x1), (2, .int x2), (3, .int x3)]) (hv_r0 : mm_lv L.1 20 r0) : W p l e R s m args below meth c H locs 0 0 (mm_Q below L s (mm_oi eo v) g') (F0 m 14 ls [.int t0]) := by
  have hX0 := hX
  obtain ⟨hx, hb, hml, hown, hr, hlk, hex, hRf, hRl, hRc, hRs, hJ, hK, hst, h00⟩ := hX0
  unfold f_Mo_want_b14 at h
  refine lv_istore hx hb d_Mo_want_14 hl (Nat.lt_of_lt_of_le (Nat.lt_succ_self _) (Nat.le_of_ble_eq_true rfl)) rfl (fun ls hl => ?_)
  have hl : lv_has ls 7 [(4, .int t0), (0, .ref (L.2.1 20 r0)), (1, .int x1), (2, .int x2), (3, .int x3)] := hl
  refine lv_iload hx hb d_Mo_want_16 (lv_at hl 0 rfl) ?_
  refine lv_if_eq (tgt := 25) hx hb d_Mo_want_18 rfl (fun hc => ?_) (fun hc => ?_)
  · have h := mm_pos hc h
    refine lv_iload_n hx hb d_Mo_want_25 rfl (lv_at hl 2 rfl) ?_
    refine lv_iload_n hx hb d_Mo_want_26 rfl (lv_at hl 3 rfl) ?_
    rcases mm_bd_some h with ⟨z1, g2, hf3, h⟩ | ⟨xe, z1, g2, hf3, h⟩
    · refine mm_goR (v := (some (.int z1))) (mm_goS (As := [.int x1, .int x2]) (rest := []) hX (c_Mo_at hf3) yw_Mo_at wt_717 wt_718 wt_8 hP hF rfl hl.1 (Nat.le_of_ble_eq_true rfl) (by decide) (by decide) hRc hRs d_Mo_want_27) hF (fun H locs hP hF _ => ?_)
      exact w_Mo_want_b30 hX h hP hF (lv_sub (l' := [(0, .ref (L.2.1 20 r0)), (1, .int x1), (2, .int x2), (3, .int x3), (4, .int t0)]) hl [1, 2, 3, 4, 0] rfl) hv_r0
    · cases h
      exact mm_goT (x := xe + 1) (mm_goS (As := [.int x1, .int x2]) (rest := []) hX (c_Mo_at hf3) yw_Mo_at wt_717 wt_718 wt_8 hP hF rfl hl.1 (Nat.le_of_ble_eq_true rfl) (by decide) (by decide) hRc hRs d_Mo_want_27) hF hex hlk
  · have h := mm_neg hc h
    refine lv_iconst (v := 0) hx hb d_Mo_want_21 (by decide) ?_
    refine lv_goto (tgt := 30) hx hb d_Mo_want_22 rfl ?_
    exact w_Mo_want_b30 hX h hP hF (lv_sub (l' := [(0, .ref (L.2.1 20 r0)), (1, .int x1), (2, .int x2), (3, .int x3), (4, .int t0)]) hl [1, 2, 3, 4, 0] rfl) hv_r0
def f_Mo_want (n : Nat) (g : mm_M) (r0 : Nat) (x1 : Int32) (x2 : Int32) (x3 : Int32) : Option (Nat × Int32 × mm_M) :=
  mm_bd (f_Mo_isPair n g r0 x1 x2) 0 (fun z1 g2 => (if z1 = 0 then f_Mo_want_b14 n g2 r0 x1 x2 x3 1 else f_Mo_want_b14 n g2 r0 x1 x2 x3 0))
set_option maxRecDepth 100000 in
set_option maxHeartbeats 4000000 in
theorem w_Mo_want {p : Program} {l : Launch} {e : Env} {R : Room} {s : State} {m : MethodId} {args : Array Value} {below : List Frame} {meth : Method} {c : Code} {L : mm_L} {eo : Nat} {v : Int32} {g' : mm_M} {g : mm_M} {r0 : Nat} {x1 : Int32} {x2 : Int32} {x3 : Int32} {H : Heap} {locs : List Loc} {ls : Array Slot} (hX : mm_X L prog_9_method_20_code 7 "LoanArrowsModel" (some .int) 4 100 p l R s m meth c) (h : f_Mo_want L.1 g r0 x1 x2 x3 = some (eo, v, g')) (hP : mm_P L g H) (hF : ∀ q ∈ locs, mm_F L q.base) (hl : lv_has ls 7 [(0, .ref (L.2.1 20 r0)), (1, .int x1), (2, .int x2), (3, .int x3)]) (hv_r0 : mm_lv L.1 20 r0) : W p l e R s m args below meth c H locs 0 0 (mm_Q below L s (mm_oi eo v) g') (F0 m 0 ls []) := by
  have hX0 := hX
  obtain ⟨hx, hb, hml, hown, hr, hlk, hex, hRf, hRl, hRc, hRs, hJ, hK, hst, h00⟩ := hX0
  unfold f_Mo_want at h
  refine lv_aload_n hx hb d_Mo_want_0 rfl (lv_at hl 0 rfl) ?_
  refine lv_iload_n hx hb d_Mo_want_1 rfl (lv_at hl 1 rfl) ?_
  refine lv_iload_n hx hb d_Mo_want_2 rfl (lv_at hl 2 rfl) ?_
  rcases mm_bd_some h with ⟨z1, g2, hf3, h⟩ | ⟨xe, z1, g2, hf3, h⟩
  · refine mm_goR (v := (some (.int z1))) (mm_goV (As := [.int x1, .int x2]) (rest := []) hX (c_Mo_isPair hv_r0 hf3) yw_Mo_isPair wt_702 wt_704 ws_0_11 hP hF (mm_recv (h := 20) (i := r0) hX hP hv_r0 rfl rfl) rfl hl.1 (Nat.le_of_ble_eq_true rfl) (by decide) (by decide) hRc hRs d_Mo_want_3) hF (fun H locs hP hF _ => ?_)
    refine lv_if_ne (tgt := 13) hx hb d_Mo_want_6 rfl (fun hc => ?_) (fun hc => ?_)
    · have h := mm_neg hc h
      refine lv_iconst (v := 0) hx hb d_Mo_want_13 (by decide) ?_
      exact w_Mo_want_b14 hX h hP hF (lv_sub (l' := [(0, .ref (L.2.1 20 r0)), (1, .int x1), (2, .int x2), (3, .int x3)]) hl [0, 1, 2, 3] rfl) hv_r0
    · have h := mm_pos hc h
      refine lv_iconst (v := 1) hx hb d_Mo_want_9 (by decide) ?_
      refine lv_goto (tgt := 14) hx hb d_Mo_want_10 rfl ?_
      exact w_Mo_want_b14 hX h hP hF (lv_sub (l' := [(0, .ref (L.2.1 20 r0)), (1, .int x1), (2, .int x2), (3, .int x3)]) hl [0, 1, 2, 3] rfl) hv_r0
  · cases h
    exact mm_goT (x := xe + 1) (mm_goV (As := [.int x1, .int x2]) (rest := []) hX (c_Mo_isPair hv_r0 hf3) yw_Mo_isPair wt_702 wt_704 ws_0_11 hP hF (mm_recv (h := 20) (i := r0) hX hP hv_r0 rfl rfl) rfl hl.1 (Nat.le_of_ble_eq_true rfl) (by decide) (by decide) hRc hRs d_Mo_want_3) hF hex hlk
set_option maxRecDepth 100000 in
set_option maxHeartbeats 4000000 in
theorem c_Mo_want {l : Launch} {L : mm_L} {g g' : mm_M} {eo : Nat} {v : Int32} {r0 : Nat} {x1 : Int32} {x2 : Int32} {x3 : Int32} (hv_r0 : mm_lv L.1 20 r0) (h : f_Mo_want L.1 g r0 x1 x2 x3 = some (eo, v, g')) : mm_C l y_Mo_want prog_9_method_20_code 7 (some .int) 4 100 L [.ref (L.2.1 20 r0), .int x1, .int x2, .int x3] g (mm_oi eo v) g' := by
  intro p e R s m below meth c hX hP
  refine mm_enter (Nat.le_of_ble_eq_true rfl) fun ls hl => ?_
  exact w_Mo_want hX h hP (fun q hq => by cases hq) (lv_sub (l' := [(0, .ref (L.2.1 20 r0)), (1, .int x1), (2, .int x2), (3, .int x3)]) hl [0, 1, 2, 3] rfl) hv_r0

def f_Po_part (n : Nat) (g : mm_M) (r0 : Nat) (x1 : Int32) (x2 : Int32) : Option (Nat × Int32 × mm_M) :=
  mm_ix ((x1 * 6) + x2) 240 (some (0, (g 11 0 ((x1 * 6) + x2).toNatClampNeg), g))
set_option maxRecDepth 100000 in
set_option maxHeartbeats 4000000 in
theorem w_Po_part {p : Program} {l : Launch} {e : Env} {R : Room} {s : State} {m : MethodId} {args : Array Value} {below : List Frame} {meth : Method} {c : Code} {L : mm_L} {eo : Nat} {v : Int32} {g' : mm_M} {g : mm_M} {r0 : Nat} {x1 : Int32} {x2 : Int32} {H : Heap} {locs : List Loc} {ls : Array Slot} (hX : mm_X L prog_6_method_2_code 3 "LoanArrows$Post" (some .int) 0 0 p l R s m meth c) (h : f_Po_part L.1 g r0 x1 x2 = some (eo, v, g')) (hP : mm_P L g H) (hF : ∀ q ∈ locs, mm_F L q.base) (hl : lv_has ls 3 [(0, .ref (L.2.1 10 r0)), (1, .int x1), (2, .int x2)]) (hv_r0 : mm_lv L.1 10 r0) : W p l e R s m args below meth c H locs 0 0 (mm_Q below L s (mm_oi eo v) g') (F0 m 0 ls []) := by
  have hX0 := hX
  obtain ⟨hx, hb, hml, hown, hr, hlk, hex, hRf, hRl, hRc, hRs, hJ, hK, hst, h00⟩ := hX0
  unfold f_Po_part at h
  refine lv_aload_n hx hb d_Po_part_0 rfl (lv_at hl 0 rfl) ?_
  refine mm_get (h := 10) (i := r0) 0 hX hP hv_r0 rfl rfl uin_10 (by decide) ⟨rfl, rfl, rfl⟩ wt_105 rfl d_Po_part_1 ?_
  refine lv_iload_n hx hb d_Po_part_4 rfl (lv_at hl 1 rfl) ?_
  refine lv_bipush (v := 6) hx hb d_Po_part_5 (by decide) ?_
  refine lv_imul hx hb d_Po_part_7 ?_
  refine lv_iload_n hx hb d_Po_part_8 rfl (lv_at hl 2 rfl) ?_
  refine lv_iadd hx hb d_Po_part_9 ?_
  obtain ⟨hin, h⟩ := mm_ix_some h
  refine mm_iald (h := 11) (i := 0) hX hP mm_ls11 (fun _ => rfl) rfl hin d_Po_part_10 ?_
  cases h
  exact mm_iret hx hb hr hlk hP hF d_Po_part_11
set_option maxRecDepth 100000 in
set_option maxHeartbeats 4000000 in
theorem c_Po_part {l : Launch} {L : mm_L} {g g' : mm_M} {eo : Nat} {v : Int32} {r0 : Nat} {x1 : Int32} {x2 : Int32} (hv_r0 : mm_lv L.1 10 r0) (h : f_Po_part L.1 g r0 x1 x2 = some (eo, v, g')) : mm_C l y_Po_part prog_6_method_2_code 3 (some .int) 0 0 L [.ref (L.2.1 10 r0), .int x1, .int x2] g (mm_oi eo v) g' := by
  intro p e R s m below meth c hX hP
  refine mm_enter (Nat.le_of_ble_eq_true rfl) fun ls hl => ?_
  exact w_Po_part hX h hP (fun q hq => by cases hq) (lv_sub (l' := [(0, .ref (L.2.1 10 r0)), (1, .int x1), (2, .int x2)]) hl [0, 1, 2] rfl) hv_r0
def f_Po_put (n : Nat) (g : mm_M) (r0 : Nat) (x1 : Int32) (x2 : Int32) (x3 : Int32) (x4 : Int32) (x5 : Int32) (x6 : Int32) : Option (Nat × Int32 × mm_M) :=
  (if (g 10 r0 1) = 40 then some (0, 0, g) else mm_ix (((g 10 r0 1) * 6) + 0) 240 (mm_let (mm_st g 11 0 (((g 10 r0 1) * 6) + 0).toNatClampNeg x1) (fun g1 => mm_ix (((g 10 r0 1) * 6) + 1) 240 (mm_let (mm_st g1 11 0 (((g 10 r0 1) * 6) + 1).toNatClampNeg x2) (fun g3 => mm_ix (((g 10 r0 1) * 6) + 2) 240 (mm_let (mm_st g3 11 0 (((g 10 r0 1) * 6) + 2).toNatClampNeg x3) (fun g5 => mm_ix (((g 10 r0 1) * 6) + 3) 240 (mm_let (mm_st g5 11 0 (((g 10 r0 1) * 6) + 3).toNatClampNeg x4) (fun g7 => mm_ix (((g 10 r0 1) * 6) + 4) 240 (mm_let (mm_st g7 11 0 (((g 10 r0 1) * 6) + 4).toNatClampNeg x5) (fun g9 => mm_ix (((g 10 r0 1) * 6) + 5) 240 (mm_let (mm_st g9 11 0 (((g 10 r0 1) * 6) + 5).toNatClampNeg x6) (fun g11 => mm_let (mm_st g11 10 r0 1 ((g11 10 r0 1) + 1)) (fun g13 => some (0, 0, g13)))))))))))))))
set_option maxRecDepth 100000 in
set_option maxHeartbeats 4000000 in
theorem w_Po_put {p : Program} {l : Launch} {e : Env} {R : Room} {s : State} {m : MethodId} {args : Array Value} {below : List Frame} {meth : Method} {c : Code} {L : mm_L} {eo : Nat} {v : Int32} {g' : mm_M} {g : mm_M} {r0 : Nat} {x1 : Int32} {x2 : Int32} {x3 : Int32} {x4 : Int32} {x5 : Int32} {x6 : Int32} {H : Heap} {locs : List Loc} {ls : Array Slot} (hX : mm_X L prog_6_method_3_code 8 "LoanArrows$Post" none 0 0 p l R s m meth c) (h : f_Po_put L.1 g r0 x1 x2 x3 x4 x5 x6 = some (eo, v, g')) (hP : mm_P L g H) (hF : ∀ q ∈ locs, mm_F L q.base) (hl : lv_has ls 8 [(0, .ref (L.2.1 10 r0)), (1, .int x1), (2, .int x2), (3, .int x3), (4, .int x4), (5, .int x5), (6, .int x6)]) (hv_r0 : mm_lv L.1 10 r0) : W p l e R s m args below meth c H locs 0 0 (mm_Q below L s (mm_ov eo v) g') (F0 m 0 ls []) := by
  have hX0 := hX
  obtain ⟨hx, hb, hml, hown, hr, hlk, hex, hRf, hRl, hRc, hRs, hJ, hK, hst, h00⟩ := hX0
  unfold f_Po_put at h
  refine lv_aload_n hx hb d_Po_put_0 rfl (lv_at hl 0 rfl) ?_
  refine mm_get (h := 10) (i := r0) 1 hX hP hv_r0 rfl rfl uin_10 (by decide) ⟨rfl, rfl, rfl⟩ wt_106 rfl d_Po_put_1 ?_
  refine lv_bipush (v := 40) hx hb d_Po_put_4 (by decide) ?_
  refine lv_icmp_ne (tgt := 10) hx hb d_Po_put_6 rfl (fun hc => ?_) (fun hc => ?_)
  · have h := mm_neg hc h
    refine lv_aload_n hx hb d_Po_put_10 rfl (lv_at hl 0 rfl) ?_
    refine mm_get (h := 10) (i := r0) 1 hX hP hv_r0 rfl rfl uin_10 (by decide) ⟨rfl, rfl, rfl⟩ wt_106 rfl d_Po_put_11 ?_
    refine lv_bipush (v := 6) hx hb d_Po_put_14 (by decide) ?_
    refine lv_imul hx hb d_Po_put_16 ?_
    refine lv_istore hx hb d_Po_put_17 hl (Nat.lt_of_lt_of_le (Nat.lt_succ_self _) (Nat.le_of_ble_eq_true rfl)) rfl (fun ls hl => ?_)
    have hl : lv_has ls 8 [(7, .int ((g 10 r0 1) * 6)), (0, .ref (L.2.1 10 r0)), (1, .int x1), (2, .int x2), (3, .int x3), (4, .int x4), (5, .int x5), (6, .int x6)] := hl
    refine lv_aload_n hx hb d_Po_put_19 rfl (lv_at hl 1 rfl) ?_
    refine mm_get (h := 10) (i := r0) 0 hX hP hv_r0 rfl rfl uin_10 (by decide) ⟨rfl, rfl, rfl⟩ wt_105 rfl d_Po_put_20 ?_
    refine lv_iload hx hb d_Po_put_23 (lv_at hl 0 rfl) ?_
    refine lv_iconst (v := 0) hx hb d_Po_put_25 (by decide) ?_
    refine lv_iadd hx hb d_Po_put_26 ?_
    refine lv_iload_n hx hb d_Po_put_27 rfl (lv_at hl 2 rfl) ?_
    obtain ⟨hin, h⟩ := mm_ix_some h
    refine mm_iast (h := 11) (i := 0) hX hP hF mm_ls11 (fun _ => rfl) rfl hin d_Po_put_28 (fun H locs hP hF => ?_)
    obtain ⟨g1, e2, h⟩ := mm_let_ex h
    have hP : mm_P L g1 H := by rw [e2]; exact hP
    refine lv_aload_n hx hb d_Po_put_29 rfl (lv_at hl 1 rfl) ?_
    refine mm_get (h := 10) (i := r0) 0 hX hP hv_r0 rfl rfl uin_10 (by decide) ⟨rfl, rfl, rfl⟩ wt_105 rfl d_Po_put_30 ?_
    refine lv_iload hx hb d_Po_put_33 (lv_at hl 0 rfl) ?_
    refine lv_iconst (v := 1) hx hb d_Po_put_35 (by decide) ?_
    refine lv_iadd hx hb d_Po_put_36 ?_
    refine lv_iload_n hx hb d_Po_put_37 rfl (lv_at hl 3 rfl) ?_
    obtain ⟨hin, h⟩ := mm_ix_some h
    refine mm_iast (h := 11) (i := 0) hX hP hF mm_ls11 (fun _ => rfl) rfl hin d_Po_put_38 (fun H locs hP hF => ?_)
    obtain ⟨g3, e4, h⟩ := mm_let_ex h
    have hP : mm_P L g3 H := by rw [e4]; exact hP
    refine lv_aload_n hx hb d_Po_put_39 rfl (lv_at hl 1 rfl) ?_
    refine mm_get (h := 10) (i := r0) 0 hX hP hv_r0 rfl rfl uin_10 (by decide) ⟨rfl, rfl, rfl⟩ wt_105 rfl d_Po_put_40 ?_
    refine lv_iload hx hb d_Po_put_43 (lv_at hl 0 rfl) ?_
    refine lv_iconst (v := 2) hx hb d_Po_put_45 (by decide) ?_
    refine lv_iadd hx hb d_Po_put_46 ?_
    refine lv_iload_n hx hb d_Po_put_47 rfl (lv_at hl 4 rfl) ?_
    obtain ⟨hin, h⟩ := mm_ix_some h
    refine mm_iast (h := 11) (i := 0) hX hP hF mm_ls11 (fun _ => rfl) rfl hin d_Po_put_48 (fun H locs hP hF => ?_)
    obtain ⟨g5, e6, h⟩ := mm_let_ex h
    have hP : mm_P L g5 H := by rw [e6]; exact hP
    refine lv_aload_n hx hb d_Po_put_49 rfl (lv_at hl 1 rfl) ?_
    refine mm_get (h := 10) (i := r0) 0 hX hP hv_r0 rfl rfl uin_10 (by decide) ⟨rfl, rfl, rfl⟩ wt_105 rfl d_Po_put_50 ?_
    refine lv_iload hx hb d_Po_put_53 (lv_at hl 0 rfl) ?_
    refine lv_iconst (v := 3) hx hb d_Po_put_55 (by decide) ?_
    refine lv_iadd hx hb d_Po_put_56 ?_
    refine lv_iload hx hb d_Po_put_57 (lv_at hl 5 rfl) ?_
    obtain ⟨hin, h⟩ := mm_ix_some h
    refine mm_iast (h := 11) (i := 0) hX hP hF mm_ls11 (fun _ => rfl) rfl hin d_Po_put_59 (fun H locs hP hF => ?_)
    obtain ⟨g7, e8, h⟩ := mm_let_ex h
    have hP : mm_P L g7 H := by rw [e8]; exact hP
    refine lv_aload_n hx hb d_Po_put_60 rfl (lv_at hl 1 rfl) ?_
    refine mm_get (h := 10) (i := r0) 0 hX hP hv_r0 rfl rfl uin_10 (by decide) ⟨rfl, rfl, rfl⟩ wt_105 rfl d_Po_put_61 ?_
    refine lv_iload hx hb d_Po_put_64 (lv_at hl 0 rfl) ?_
    refine lv_iconst (v := 4) hx hb d_Po_put_66 (by decide) ?_
    refine lv_iadd hx hb d_Po_put_67 ?_
    refine lv_iload hx hb d_Po_put_68 (lv_at hl 6 rfl) ?_
    obtain ⟨hin, h⟩ := mm_ix_some h
    refine mm_iast (h := 11) (i := 0) hX hP hF mm_ls11 (fun _ => rfl) rfl hin d_Po_put_70 (fun H locs hP hF => ?_)
    obtain ⟨g9, e10, h⟩ := mm_let_ex h
    have hP : mm_P L g9 H := by rw [e10]; exact hP
    refine lv_aload_n hx hb d_Po_put_71 rfl (lv_at hl 1 rfl) ?_
    refine mm_get (h := 10) (i := r0) 0 hX hP hv_r0 rfl rfl uin_10 (by decide) ⟨rfl, rfl, rfl⟩ wt_105 rfl d_Po_put_72 ?_
    refine lv_iload hx hb d_Po_put_75 (lv_at hl 0 rfl) ?_
    refine lv_iconst (v := 5) hx hb d_Po_put_77 (by decide) ?_
    refine lv_iadd hx hb d_Po_put_78 ?_
    refine lv_iload hx hb d_Po_put_79 (lv_at hl 7 rfl) ?_
    obtain ⟨hin, h⟩ := mm_ix_some h
    refine mm_iast (h := 11) (i := 0) hX hP hF mm_ls11 (fun _ => rfl) rfl hin d_Po_put_81 (fun H locs hP hF => ?_)
    obtain ⟨g11, e12, h⟩ := mm_let_ex h
    have hP : mm_P L g11 H := by rw [e12]; exact hP
    refine lv_aload_n hx hb d_Po_put_82 rfl (lv_at hl 1 rfl) ?_
    refine lv_dup hx hb d_Po_put_83 rfl ?_
    refine mm_get (h := 10) (i := r0) 1 hX hP hv_r0 rfl rfl uin_10 (by decide) ⟨rfl, rfl, rfl⟩ wt_106 rfl d_Po_put_84 ?_
    refine lv_iconst (v := 1) hx hb d_Po_put_87 (by decide) ?_
    refine lv_iadd hx hb d_Po_put_88 ?_
    refine mm_put (h := 10) (i := r0) 1 hX hP hF hv_r0 rfl rfl rfl uin_10 ty_10 tyok_10 nmok_10 (by decide) ⟨rfl, rfl, rfl⟩ rfl wt_106 rfl rfl rfl (Nat.le_of_ble_eq_true rfl) d_Po_put_89 (fun H locs hP hF => ?_)
    obtain ⟨g13, e14, h⟩ := mm_let_ex h
    have hP : mm_P L g13 H := by rw [e14]; exact hP
    cases h
    exact mm_vret hx hb hr hlk hP hF d_Po_put_92
  · have h := mm_pos hc h
    cases h
    exact mm_vret hx hb hr hlk hP hF d_Po_put_9
set_option maxRecDepth 100000 in
set_option maxHeartbeats 4000000 in
theorem c_Po_put {l : Launch} {L : mm_L} {g g' : mm_M} {eo : Nat} {v : Int32} {r0 : Nat} {x1 : Int32} {x2 : Int32} {x3 : Int32} {x4 : Int32} {x5 : Int32} {x6 : Int32} (hv_r0 : mm_lv L.1 10 r0) (h : f_Po_put L.1 g r0 x1 x2 x3 x4 x5 x6 = some (eo, v, g')) : mm_C l y_Po_put prog_6_method_3_code 8 none 0 0 L [.ref (L.2.1 10 r0), .int x1, .int x2, .int x3, .int x4, .int x5, .int x6] g (mm_ov eo v) g' := by
  intro p e R s m below meth c hX hP
  refine mm_enter (Nat.le_of_ble_eq_true rfl) fun ls hl => ?_
  exact w_Po_put hX h hP (fun q hq => by cases hq) (lv_sub (l' := [(0, .ref (L.2.1 10 r0)), (1, .int x1), (2, .int x2), (3, .int x3), (4, .int x4), (5, .int x5), (6, .int x6)]) hl [0, 1, 2, 3, 4, 5, 6] rfl) hv_r0
def f_Po_putAgain (n : Nat) (g : mm_M) (r0 : Nat) (x1 : Int32) : Option (Nat × Int32 × mm_M) :=
  (if (g 10 r0 1) = 40 then mm_nz 0 (some (0, 0, g)) else mm_cp (x1 * 6) ((g 10 r0 1) * 6) 6 240 240 (mm_let (mm_row g 11 0 (va_cpy (g 11 0) (g 11 0) (x1 * 6).toNatClampNeg ((g 10 r0 1) * 6).toNatClampNeg (6 : Int32).toNatClampNeg)) (fun g1 => mm_let (mm_st g1 10 r0 1 ((g1 10 r0 1) + 1)) (fun g3 => mm_nz 1 (some (0, 1, g3))))))
set_option maxRecDepth 100000 in
set_option maxHeartbeats 4000000 in
theorem w_Po_putAgain {p : Program} {l : Launch} {e : Env} {R : Room} {s : State} {m : MethodId} {args : Array Value} {below : List Frame} {meth : Method} {c : Code} {L : mm_L} {eo : Nat} {v : Int32} {g' : mm_M} {g : mm_M} {r0 : Nat} {x1 : Int32} {H : Heap} {locs : List Loc} {ls : Array Slot} (hX : mm_X L prog_6_method_4_code 2 "LoanArrows$Post" (some .boolean) 1 40 p l R s m meth c) (h : f_Po_putAgain L.1 g r0 x1 = some (eo, v, g')) (hP : mm_P L g H) (hF : ∀ q ∈ locs, mm_F L q.base) (hl : lv_has ls 2 [(0, .ref (L.2.1 10 r0)), (1, .int x1)]) (hv_r0 : mm_lv L.1 10 r0) : W p l e R s m args below meth c H locs 0 0 (mm_Q below L s (mm_oi eo v) g') (F0 m 0 ls []) := by
  have hX0 := hX
  obtain ⟨hx, hb, hml, hown, hr, hlk, hex, hRf, hRl, hRc, hRs, hJ, hK, hst, h00⟩ := hX0
  unfold f_Po_putAgain at h
  refine lv_aload_n hx hb d_Po_putAgain_0 rfl (lv_at hl 0 rfl) ?_
  refine mm_get (h := 10) (i := r0) 1 hX hP hv_r0 rfl rfl uin_10 (by decide) ⟨rfl, rfl, rfl⟩ wt_106 rfl d_Po_putAgain_1 ?_
  refine lv_bipush (v := 40) hx hb d_Po_putAgain_4 (by decide) ?_
  refine lv_icmp_ne (tgt := 11) hx hb d_Po_putAgain_6 rfl (fun hc => ?_) (fun hc => ?_)
  · have h := mm_neg hc h
    refine lv_aload_n hx hb d_Po_putAgain_11 rfl (lv_at hl 0 rfl) ?_
    refine mm_get (h := 10) (i := r0) 0 hX hP hv_r0 rfl rfl uin_10 (by decide) ⟨rfl, rfl, rfl⟩ wt_105 rfl d_Po_putAgain_12 ?_
    refine lv_iload_n hx hb d_Po_putAgain_15 rfl (lv_at hl 1 rfl) ?_
    refine lv_bipush (v := 6) hx hb d_Po_putAgain_16 (by decide) ?_
    refine lv_imul hx hb d_Po_putAgain_18 ?_
    refine lv_aload_n hx hb d_Po_putAgain_19 rfl (lv_at hl 0 rfl) ?_
    refine mm_get (h := 10) (i := r0) 0 hX hP hv_r0 rfl rfl uin_10 (by decide) ⟨rfl, rfl, rfl⟩ wt_105 rfl d_Po_putAgain_20 ?_
    refine lv_aload_n hx hb d_Po_putAgain_23 rfl (lv_at hl 0 rfl) ?_
    refine mm_get (h := 10) (i := r0) 1 hX hP hv_r0 rfl rfl uin_10 (by decide) ⟨rfl, rfl, rfl⟩ wt_106 rfl d_Po_putAgain_24 ?_
    refine lv_bipush (v := 6) hx hb d_Po_putAgain_27 (by decide) ?_
    refine lv_imul hx hb d_Po_putAgain_29 ?_
    refine lv_bipush (v := 6) hx hb d_Po_putAgain_30 (by decide) ?_
    obtain ⟨hc1, hc2, hc3, hc4, hc5, h⟩ := mm_cp_some h
    refine mm_acopy (h := 11) (i := 0) hX hP hF mm_ls11 (fun _ => rfl) rfl wt_484 wt_486 wt_485 wt_16 hc1 hc2 hc3 hc4 hc5 hl.1 (by decide) (by decide) d_Po_putAgain_32 (fun H locs hP hF => ?_)
    obtain ⟨g1, e2, h⟩ := mm_let_ex h
    have hP : mm_P L g1 H := by rw [e2]; exact hP
    refine lv_aload_n hx hb d_Po_putAgain_35 rfl (lv_at hl 0 rfl) ?_
    refine lv_dup hx hb d_Po_putAgain_36 rfl ?_
    refine mm_get (h := 10) (i := r0) 1 hX hP hv_r0 rfl rfl uin_10 (by decide) ⟨rfl, rfl, rfl⟩ wt_106 rfl d_Po_putAgain_37 ?_
    refine lv_iconst (v := 1) hx hb d_Po_putAgain_40 (by decide) ?_
    refine lv_iadd hx hb d_Po_putAgain_41 ?_
    refine mm_put (h := 10) (i := r0) 1 hX hP hF hv_r0 rfl rfl rfl uin_10 ty_10 tyok_10 nmok_10 (by decide) ⟨rfl, rfl, rfl⟩ rfl wt_106 rfl rfl rfl (Nat.le_of_ble_eq_true rfl) d_Po_putAgain_42 (fun H locs hP hF => ?_)
    obtain ⟨g3, e4, h⟩ := mm_let_ex h
    have hP : mm_P L g3 H := by rw [e4]; exact hP
    refine lv_iconst (v := 1) hx hb d_Po_putAgain_45 (by decide) ?_
    obtain ⟨hn, h⟩ := mm_nz_some h
    cases h
    exact mm_zret hx hb hr hn hlk hP hF d_Po_putAgain_46
  · have h := mm_pos hc h
    refine lv_iconst (v := 0) hx hb d_Po_putAgain_9 (by decide) ?_
    obtain ⟨hn, h⟩ := mm_nz_some h
    cases h
    exact mm_zret hx hb hr hn hlk hP hF d_Po_putAgain_10
set_option maxRecDepth 100000 in
set_option maxHeartbeats 4000000 in
theorem c_Po_putAgain {l : Launch} {L : mm_L} {g g' : mm_M} {eo : Nat} {v : Int32} {r0 : Nat} {x1 : Int32} (hv_r0 : mm_lv L.1 10 r0) (h : f_Po_putAgain L.1 g r0 x1 = some (eo, v, g')) : mm_C l y_Po_putAgain prog_6_method_4_code 2 (some .boolean) 1 40 L [.ref (L.2.1 10 r0), .int x1] g (mm_oi eo v) g' := by
  intro p e R s m below meth c hX hP
  refine mm_enter (Nat.le_of_ble_eq_true rfl) fun ls hl => ?_
  exact w_Po_putAgain hX h hP (fun q hq => by cases hq) (lv_sub (l' := [(0, .ref (L.2.1 10 r0)), (1, .int x1)]) hl [0, 1] rfl) hv_r0
def f_Po_remove (n : Nat) (g : mm_M) (r0 : Nat) (x1 : Int32) : Option (Nat × Int32 × mm_M) :=
  mm_cp ((x1 * 6) + 6) (x1 * 6) ((((g 10 r0 1) - x1) - 1) * 6) 240 240 (mm_let (mm_row g 11 0 (va_cpy (g 11 0) (g 11 0) ((x1 * 6) + 6).toNatClampNeg (x1 * 6).toNatClampNeg ((((g 10 r0 1) - x1) - 1) * 6).toNatClampNeg)) (fun g1 => mm_let (mm_st g1 10 r0 1 ((g1 10 r0 1) - 1)) (fun g3 => some (0, 0, g3))))
set_option maxRecDepth 100000 in
set_option maxHeartbeats 4000000 in
theorem w_Po_remove {p : Program} {l : Launch} {e : Env} {R : Room} {s : State} {m : MethodId} {args : Array Value} {below : List Frame} {meth : Method} {c : Code} {L : mm_L} {eo : Nat} {v : Int32} {g' : mm_M} {g : mm_M} {r0 : Nat} {x1 : Int32} {H : Heap} {locs : List Loc} {ls : Array Slot} (hX : mm_X L prog_6_method_5_code 3 "LoanArrows$Post" none 1 40 p l R s m meth c) (h : f_Po_remove L.1 g r0 x1 = some (eo, v, g')) (hP : mm_P L g H) (hF : ∀ q ∈ locs, mm_F L q.base) (hl : lv_has ls 3 [(0, .ref (L.2.1 10 r0)), (1, .int x1)]) (hv_r0 : mm_lv L.1 10 r0) : W p l e R s m args below meth c H locs 0 0 (mm_Q below L s (mm_ov eo v) g') (F0 m 0 ls []) := by
  have hX0 := hX
  obtain ⟨hx, hb, hml, hown, hr, hlk, hex, hRf, hRl, hRc, hRs, hJ, hK, hst, h00⟩ := hX0
  unfold f_Po_remove at h
  refine lv_iload_n hx hb d_Po_remove_0 rfl (lv_at hl 1 rfl) ?_
  refine lv_bipush (v := 6) hx hb d_Po_remove_1 (by decide) ?_
  refine lv_imul hx hb d_Po_remove_3 ?_
  refine lv_istore_n hx hb d_Po_remove_4 rfl hl (Nat.lt_of_lt_of_le (Nat.lt_succ_self _) (Nat.le_of_ble_eq_true rfl)) rfl (fun ls hl => ?_)
  have hl : lv_has ls 3 [(2, .int (x1 * 6)), (0, .ref (L.2.1 10 r0)), (1, .int x1)] := hl
  refine lv_aload_n hx hb d_Po_remove_5 rfl (lv_at hl 1 rfl) ?_
  refine mm_get (h := 10) (i := r0) 0 hX hP hv_r0 rfl rfl uin_10 (by decide) ⟨rfl, rfl, rfl⟩ wt_105 rfl d_Po_remove_6 ?_
  refine lv_iload_n hx hb d_Po_remove_9 rfl (lv_at hl 0 rfl) ?_
  refine lv_bipush (v := 6) hx hb d_Po_remove_10 (by decide) ?_
  refine lv_iadd hx hb d_Po_remove_12 ?_
  refine lv_aload_n hx hb d_Po_remove_13 rfl (lv_at hl 1 rfl) ?_
  refine mm_get (h := 10) (i := r0) 0 hX hP hv_r0 rfl rfl uin_10 (by decide) ⟨rfl, rfl, rfl⟩ wt_105 rfl d_Po_remove_14 ?_
  refine lv_iload_n hx hb d_Po_remove_17 rfl (lv_at hl 0 rfl) ?_
  refine lv_aload_n hx hb d_Po_remove_18 rfl (lv_at hl 1 rfl) ?_
  refine mm_get (h := 10) (i := r0) 1 hX hP hv_r0 rfl rfl uin_10 (by decide) ⟨rfl, rfl, rfl⟩ wt_106 rfl d_Po_remove_19 ?_
  refine lv_iload_n hx hb d_Po_remove_22 rfl (lv_at hl 2 rfl) ?_
  refine lv_isub hx hb d_Po_remove_23 ?_
  refine lv_iconst (v := 1) hx hb d_Po_remove_24 (by decide) ?_
  refine lv_isub hx hb d_Po_remove_25 ?_
  refine lv_bipush (v := 6) hx hb d_Po_remove_26 (by decide) ?_
  refine lv_imul hx hb d_Po_remove_28 ?_
  obtain ⟨hc1, hc2, hc3, hc4, hc5, h⟩ := mm_cp_some h
  refine mm_acopy (h := 11) (i := 0) hX hP hF mm_ls11 (fun _ => rfl) rfl wt_484 wt_486 wt_485 wt_16 hc1 hc2 hc3 hc4 hc5 hl.1 (by decide) (by decide) d_Po_remove_29 (fun H locs hP hF => ?_)
  obtain ⟨g1, e2, h⟩ := mm_let_ex h
  have hP : mm_P L g1 H := by rw [e2]; exact hP
  refine lv_aload_n hx hb d_Po_remove_32 rfl (lv_at hl 1 rfl) ?_
  refine lv_dup hx hb d_Po_remove_33 rfl ?_
  refine mm_get (h := 10) (i := r0) 1 hX hP hv_r0 rfl rfl uin_10 (by decide) ⟨rfl, rfl, rfl⟩ wt_106 rfl d_Po_remove_34 ?_
  refine lv_iconst (v := 1) hx hb d_Po_remove_37 (by decide) ?_
  refine lv_isub hx hb d_Po_remove_38 ?_
  refine mm_put (h := 10) (i := r0) 1 hX hP hF hv_r0 rfl rfl rfl uin_10 ty_10 tyok_10 nmok_10 (by decide) ⟨rfl, rfl, rfl⟩ rfl wt_106 rfl rfl rfl (Nat.le_of_ble_eq_true rfl) d_Po_remove_39 (fun H locs hP hF => ?_)
  obtain ⟨g3, e4, h⟩ := mm_let_ex h
  have hP : mm_P L g3 H := by rw [e4]; exact hP
  cases h
  exact mm_vret hx hb hr hlk hP hF d_Po_remove_42
set_option maxRecDepth 100000 in
set_option maxHeartbeats 4000000 in
theorem c_Po_remove {l : Launch} {L : mm_L} {g g' : mm_M} {eo : Nat} {v : Int32} {r0 : Nat} {x1 : Int32} (hv_r0 : mm_lv L.1 10 r0) (h : f_Po_remove L.1 g r0 x1 = some (eo, v, g')) : mm_C l y_Po_remove prog_6_method_5_code 3 none 1 40 L [.ref (L.2.1 10 r0), .int x1] g (mm_ov eo v) g' := by
  intro p e R s m below meth c hX hP
  refine mm_enter (Nat.le_of_ble_eq_true rfl) fun ls hl => ?_
  exact w_Po_remove hX h hP (fun q hq => by cases hq) (lv_sub (l' := [(0, .ref (L.2.1 10 r0)), (1, .int x1)]) hl [0, 1] rfl) hv_r0

def f_Mo_lend_l109 (n : Nat) : Nat → mm_M → Nat → Int32 → Int32 → Option (Nat × Int32 × mm_M)
  | 0, _, _, _, _ => none
  | k + 1, g, r0, x4, x5 => mm_ix x4 36 ((if (g 28 0 x4.toNatClampNeg) ≤ x5 then mm_ix x4 36 (mm_let (mm_st g 26 0 x4.toNatClampNeg 3) (fun g1 => mm_ix x4 36 (some (0, (g1 27 0 x4.toNatClampNeg), g1)))) else mm_ix (((4 * x4) + x5) + 1) 144 (mm_ix ((4 * x4) + x5) 144 (mm_let (mm_st g 29 0 ((4 * x4) + x5).toNatClampNeg (g 29 0 (((4 * x4) + x5) + 1).toNatClampNeg)) (fun g3 => f_Mo_lend_l109 n k g3 r0 x4 (x5 + 1))))))
set_option maxRecDepth 100000 in
set_option maxHeartbeats 4000000 in
theorem w_Mo_lend_l109 {p : Program} {l : Launch} {e : Env} {R : Room} {s : State} {m : MethodId} {args : Array Value} {below : List Frame} {meth : Method} {c : Code} {L : mm_L} {eo : Nat} {v : Int32} {g' : mm_M} (hX : mm_X L prog_9_method_21_code 6 "LoanArrowsModel" (some .int) 2 43 p l R s m meth c) : ∀ (k : Nat) (g : mm_M) (r0 : Nat) (x4 : Int32) (x5 : Int32) (H : Heap) (locs : List Loc) (ls : Array Slot), f_Mo_lend_l109 L.1 k g r0 x4 x5 = some (eo, v, g') → mm_P L g H → (∀ q ∈ locs, mm_F L q.base) → lv_has ls 6 [(0, .ref (L.2.1 20 r0)), (4, .int x4), (5, .int x5)] → mm_lv L.1 20 r0 → W p l e R s m args below meth c H locs 0 0 (mm_Q below L s (mm_oi eo v) g') (F0 m 109 ls []) := by
  have hX0 := hX
  obtain ⟨hx, hb, hml, hown, hr, hlk, hex, hRf, hRl, hRc, hRs, hJ, hK, hst, h00⟩ := hX0
  intro k
  induction k with
  | zero =>
    intro g r0 x4 x5 H locs ls h hP hF hl hv_r0
    rw [f_Mo_lend_l109] at h
    cases h
  | succ k ih =>
    intro g r0 x4 x5 H locs ls h hP hF hl hv_r0
    rw [f_Mo_lend_l109] at h
    refine lv_iload hx hb d_Mo_lend_109 (lv_at hl 2 rfl) ?_
    refine lv_aload_n hx hb d_Mo_lend_111 rfl (lv_at hl 0 rfl) ?_
    refine mm_get (h := 20) (i := r0) 9 hX hP hv_r0 rfl rfl uin_20 (by decide) ⟨rfl, rfl, rfl⟩ wt_621 rfl d_Mo_lend_112 ?_
    refine lv_iload hx hb d_Mo_lend_115 (lv_at hl 1 rfl) ?_
    obtain ⟨hin, h⟩ := mm_ix_some h
    refine mm_iald (h := 28) (i := 0) hX hP mm_ls28 (fun _ => rfl) rfl hin d_Mo_lend_117 ?_
    refine lv_icmp_ge (tgt := 153) hx hb d_Mo_lend_118 rfl (fun hc => ?_) (fun hc => ?_)
    · have h := mm_pos hc h
      refine lv_aload_n hx hb d_Mo_lend_153 rfl (lv_at hl 0 rfl) ?_
      refine mm_get (h := 20) (i := r0) 7 hX hP hv_r0 rfl rfl uin_20 (by decide) ⟨rfl, rfl, rfl⟩ wt_619 rfl d_Mo_lend_154 ?_
      refine lv_iload hx hb d_Mo_lend_157 (lv_at hl 1 rfl) ?_
      refine lv_iconst (v := 3) hx hb d_Mo_lend_159 (by decide) ?_
      obtain ⟨hin, h⟩ := mm_ix_some h
      refine mm_iast (h := 26) (i := 0) hX hP hF mm_ls26 (fun _ => rfl) rfl hin d_Mo_lend_160 (fun H locs hP hF => ?_)
      obtain ⟨g1, e2, h⟩ := mm_let_ex h
      have hP : mm_P L g1 H := by rw [e2]; exact hP
      refine lv_aload_n hx hb d_Mo_lend_161 rfl (lv_at hl 0 rfl) ?_
      refine mm_get (h := 20) (i := r0) 8 hX hP hv_r0 rfl rfl uin_20 (by decide) ⟨rfl, rfl, rfl⟩ wt_620 rfl d_Mo_lend_162 ?_
      refine lv_iload hx hb d_Mo_lend_165 (lv_at hl 1 rfl) ?_
      obtain ⟨hin, h⟩ := mm_ix_some h
      refine mm_iald (h := 27) (i := 0) hX hP mm_ls27 (fun _ => rfl) rfl hin d_Mo_lend_167 ?_
      cases h
      exact mm_iret hx hb hr hlk hP hF d_Mo_lend_168
    · have h := mm_neg hc h
      refine lv_aload_n hx hb d_Mo_lend_121 rfl (lv_at hl 0 rfl) ?_
      refine mm_get (h := 20) (i := r0) 10 hX hP hv_r0 rfl rfl uin_20 (by decide) ⟨rfl, rfl, rfl⟩ wt_622 rfl d_Mo_lend_122 ?_
      refine lv_iconst (v := 4) hx hb d_Mo_lend_125 (by decide) ?_
      refine lv_iload hx hb d_Mo_lend_126 (lv_at hl 1 rfl) ?_
      refine lv_imul hx hb d_Mo_lend_128 ?_
      refine lv_iload hx hb d_Mo_lend_129 (lv_at hl 2 rfl) ?_
      refine lv_iadd hx hb d_Mo_lend_131 ?_
      refine lv_aload_n hx hb d_Mo_lend_132 rfl (lv_at hl 0 rfl) ?_
      refine mm_get (h := 20) (i := r0) 10 hX hP hv_r0 rfl rfl uin_20 (by decide) ⟨rfl, rfl, rfl⟩ wt_622 rfl d_Mo_lend_133 ?_
      refine lv_iconst (v := 4) hx hb d_Mo_lend_136 (by decide) ?_
      refine lv_iload hx hb d_Mo_lend_137 (lv_at hl 1 rfl) ?_
      refine lv_imul hx hb d_Mo_lend_139 ?_
      refine lv_iload hx hb d_Mo_lend_140 (lv_at hl 2 rfl) ?_
      refine lv_iadd hx hb d_Mo_lend_142 ?_
      refine lv_iconst (v := 1) hx hb d_Mo_lend_143 (by decide) ?_
      refine lv_iadd hx hb d_Mo_lend_144 ?_
      obtain ⟨hin, h⟩ := mm_ix_some h
      refine mm_iald (h := 29) (i := 0) hX hP mm_ls29 (fun _ => rfl) rfl hin d_Mo_lend_145 ?_
      obtain ⟨hin, h⟩ := mm_ix_some h
      refine mm_iast (h := 29) (i := 0) hX hP hF mm_ls29 (fun _ => rfl) rfl hin d_Mo_lend_146 (fun H locs hP hF => ?_)
      obtain ⟨g3, e4, h⟩ := mm_let_ex h
      have hP : mm_P L g3 H := by rw [e4]; exact hP
      refine lv_iinc (k := 2) (v := (x5 + 1)) hx hb d_Mo_lend_147 hl rfl (congrArg (fun z => x5 + z) mm_i1) (Nat.lt_of_lt_of_le (Nat.lt_succ_self _) (Nat.le_of_ble_eq_true rfl)) rfl (fun ls hl => ?_)
      have hl : lv_has ls 6 [(5, .int (x5 + 1)), (0, .ref (L.2.1 20 r0)), (4, .int x4)] := hl
      refine lv_goto (tgt := 109) hx hb d_Mo_lend_150 rfl ?_
      exact ih _ _ _ _ _ _ _ h hP hF (lv_sub (l' := [(0, .ref (L.2.1 20 r0)), (4, .int x4), (5, .int (x5 + 1))]) hl [1, 2, 0] rfl) hv_r0
def f_Mo_lend_b70 (n : Nat) (g : mm_M) (r0 : Nat) (x4 : Int32) (u0 : Nat) (t1 : Int32) (t2 : Int32) : Option (Nat × Int32 × mm_M) :=
  mm_bd (f_Mo_refused n g u0 t1 t2 0) 0 (fun z1 g2 => (if z1 = 0 then mm_ix (4 * x4) 144 (mm_ix x4 36 (mm_let (mm_st g2 27 0 x4.toNatClampNeg (g2 29 0 (4 * x4).toNatClampNeg)) (fun g4 => mm_ix x4 36 (mm_ix x4 36 (mm_let (mm_st g4 28 0 x4.toNatClampNeg ((g4 28 0 x4.toNatClampNeg) - 1)) (fun g6 => f_Mo_lend_l109 n 4096 g6 r0 x4 0)))))) else some (0, 0, g2)))
set_option maxRecDepth 100000 in
set_option maxHeartbeats 4000000 in
theorem w_Mo_lend_b70 {p : Program} {l : Launch} {e : Env} {R : Room} {s : State} {m : MethodId} {args : Array Value} {below : List Frame} {meth : Method} {c : Code} {L : mm_L} {eo : Nat} {v : Int32} {g' : mm_M} {g : mm_M} {r0 : Nat} {x4 : Int32} {u0 : Nat} {t1 : Int32} {t2 : Int32} {H : Heap} {locs : List Loc} {ls : Array Slot} (hX : mm_X L prog_9_method_21_code 6 "LoanArrowsModel" (some .int) 2 43 p l R s m meth c) (h : f_Mo_lend_b70 L.1 g r0 x4 u0 t1 t2 = some (eo, v, g')) (hP : mm_P L g H) (hF : ∀ q ∈ locs, mm_F L q.base) (hl : lv_has ls 6 [(0, .ref (L.2.1 20 r0)), (4, .int x4)]) (hv_r0 : mm_lv L.1 20 r0) (hv_u0 : mm_lv L.1 20 u0) : W p l e R s m args below meth c H locs 0 0 (mm_Q below L s (mm_oi eo v) g') (F0 m 70 ls [.int t2, .int t1, .ref (L.2.1 20 u0)]) := by
  have hX0 := hX
  obtain ⟨hx, hb, hml, hown, hr, hlk, hex, hRf, hRl, hRc, hRs, hJ, hK, hst, h00⟩ := hX0
  unfold f_Mo_lend_b70 at h
  refine lv_iconst (v := 0) hx hb d_Mo_lend_70 (by decide) ?_
  rcases mm_bd_some h with ⟨z1, g2, hf3, h⟩ | ⟨xe, z1, g2, hf3, h⟩
  · refine mm_goR (v := (some (.int z1))) (mm_goV (As := [.int t1, .int t2, .int 0]) (rest := []) hX (c_Mo_refused hv_u0 hf3) yw_Mo_refused wt_713 wt_715 ws_0_13 hP hF (mm_recv (h := 20) (i := u0) hX hP hv_u0 rfl rfl) rfl hl.1 (Nat.le_of_ble_eq_true rfl) (by decide) (by decide) hRc hRs d_Mo_lend_71) hF (fun H locs hP hF _ => ?_)
    refine lv_if_eq (tgt := 79) hx hb d_Mo_lend_74 rfl (fun hc => ?_) (fun hc => ?_)
    · have h := mm_pos hc h
      refine lv_aload_n hx hb d_Mo_lend_79 rfl (lv_at hl 0 rfl) ?_
      refine mm_get (h := 20) (i := r0) 8 hX hP hv_r0 rfl rfl uin_20 (by decide) ⟨rfl, rfl, rfl⟩ wt_620 rfl d_Mo_lend_80 ?_
      refine lv_iload hx hb d_Mo_lend_83 (lv_at hl 1 rfl) ?_
      refine lv_aload_n hx hb d_Mo_lend_85 rfl (lv_at hl 0 rfl) ?_
      refine mm_get (h := 20) (i := r0) 10 hX hP hv_r0 rfl rfl uin_20 (by decide) ⟨rfl, rfl, rfl⟩ wt_622 rfl d_Mo_lend_86 ?_
      refine lv_iconst (v := 4) hx hb d_Mo_lend_89 (by decide) ?_
      refine lv_iload hx hb d_Mo_lend_90 (lv_at hl 1 rfl) ?_
      refine lv_imul hx hb d_Mo_lend_92 ?_
      obtain ⟨hin, h⟩ := mm_ix_some h
      refine mm_iald (h := 29) (i := 0) hX hP mm_ls29 (fun _ => rfl) rfl hin d_Mo_lend_93 ?_
      obtain ⟨hin, h⟩ := mm_ix_some h
      refine mm_iast (h := 27) (i := 0) hX hP hF mm_ls27 (fun _ => rfl) rfl hin d_Mo_lend_94 (fun H locs hP hF => ?_)
      obtain ⟨g4, e5, h⟩ := mm_let_ex h
      have hP : mm_P L g4 H := by rw [e5]; exact hP
      refine lv_aload_n hx hb d_Mo_lend_95 rfl (lv_at hl 0 rfl) ?_
      refine mm_get (h := 20) (i := r0) 9 hX hP hv_r0 rfl rfl uin_20 (by decide) ⟨rfl, rfl, rfl⟩ wt_621 rfl d_Mo_lend_96 ?_
      refine lv_iload hx hb d_Mo_lend_99 (lv_at hl 1 rfl) ?_
      refine lv_dup2_11 hx hb d_Mo_lend_101 rfl rfl ?_
      obtain ⟨hin, h⟩ := mm_ix_some h
      refine mm_iald (h := 28) (i := 0) hX hP mm_ls28 (fun _ => rfl) rfl hin d_Mo_lend_102 ?_
      refine lv_iconst (v := 1) hx hb d_Mo_lend_103 (by decide) ?_
      refine lv_isub hx hb d_Mo_lend_104 ?_
      obtain ⟨hin, h⟩ := mm_ix_some h
      refine mm_iast (h := 28) (i := 0) hX hP hF mm_ls28 (fun _ => rfl) rfl hin d_Mo_lend_105 (fun H locs hP hF => ?_)
      obtain ⟨g6, e7, h⟩ := mm_let_ex h
      have hP : mm_P L g6 H := by rw [e7]; exact hP
      refine lv_iconst (v := 0) hx hb d_Mo_lend_106 (by decide) ?_
      refine lv_istore hx hb d_Mo_lend_107 hl (Nat.lt_of_lt_of_le (Nat.lt_succ_self _) (Nat.le_of_ble_eq_true rfl)) rfl (fun ls hl => ?_)
      have hl : lv_has ls 6 [(5, .int 0), (0, .ref (L.2.1 20 r0)), (4, .int x4)] := hl
      exact w_Mo_lend_l109 hX _ _ _ _ _ _ _ _ h hP hF (lv_sub (l' := [(0, .ref (L.2.1 20 r0)), (4, .int x4), (5, .int 0)]) hl [1, 2, 0] rfl) hv_r0
    · have h := mm_neg hc h
      refine lv_iconst (v := 0) hx hb d_Mo_lend_77 (by decide) ?_
      cases h
      exact mm_iret hx hb hr hlk hP hF d_Mo_lend_78
  · cases h
    exact mm_goT (x := xe + 1) (mm_goV (As := [.int t1, .int t2, .int 0]) (rest := []) hX (c_Mo_refused hv_u0 hf3) yw_Mo_refused wt_713 wt_715 ws_0_13 hP hF (mm_recv (h := 20) (i := u0) hX hP hv_u0 rfl rfl) rfl hl.1 (Nat.le_of_ble_eq_true rfl) (by decide) (by decide) hRc hRs d_Mo_lend_71) hF hex hlk
def f_Mo_lend_b65 (n : Nat) (g : mm_M) (r0 : Nat) (x4 : Int32) (u0 : Nat) (t1 : Int32) : Option (Nat × Int32 × mm_M) :=
  f_Mo_lend_b70 n g r0 x4 u0 t1 1
set_option maxRecDepth 100000 in
set_option maxHeartbeats 4000000 in
theorem w_Mo_lend_b65 {p : Program} {l : Launch} {e : Env} {R : Room} {s : State} {m : MethodId} {args : Array Value} {below : List Frame} {meth : Method} {c : Code} {L : mm_L} {eo : Nat} {v : Int32} {g' : mm_M} {g : mm_M} {r0 : Nat} {x4 : Int32} {u0 : Nat} {t1 : Int32} {H : Heap} {locs : List Loc} {ls : Array Slot} (hX : mm_X L prog_9_method_21_code 6 "LoanArrowsModel" (some .int) 2 43 p l R s m meth c) (h : f_Mo_lend_b65 L.1 g r0 x4 u0 t1 = some (eo, v, g')) (hP : mm_P L g H) (hF : ∀ q ∈ locs, mm_F L q.base) (hl : lv_has ls 6 [(0, .ref (L.2.1 20 r0)), (4, .int x4)]) (hv_r0 : mm_lv L.1 20 r0) (hv_u0 : mm_lv L.1 20 u0) : W p l e R s m args below meth c H locs 0 0 (mm_Q below L s (mm_oi eo v) g') (F0 m 65 ls [.int t1, .ref (L.2.1 20 u0)]) := by
  have hX0 := hX
  obtain ⟨hx, hb, hml, hown, hr, hlk, hex, hRf, hRl, hRc, hRs, hJ, hK, hst, h00⟩ := hX0
  unfold f_Mo_lend_b65 at h
  refine lv_iconst (v := 1) hx hb d_Mo_lend_65 (by decide) ?_
  refine lv_goto (tgt := 70) hx hb d_Mo_lend_66 rfl ?_
  exact w_Mo_lend_b70 hX h hP hF (lv_sub (l' := [(0, .ref (L.2.1 20 r0)), (4, .int x4)]) hl [0, 1] rfl) hv_r0 hv_u0
def f_Mo_lend_b69 (n : Nat) (g : mm_M) (r0 : Nat) (x4 : Int32) (u0 : Nat) (t1 : Int32) : Option (Nat × Int32 × mm_M) :=
  f_Mo_lend_b70 n g r0 x4 u0 t1 0
set_option maxRecDepth 100000 in
set_option maxHeartbeats 4000000 in
theorem w_Mo_lend_b69 {p : Program} {l : Launch} {e : Env} {R : Room} {s : State} {m : MethodId} {args : Array Value} {below : List Frame} {meth : Method} {c : Code} {L : mm_L} {eo : Nat} {v : Int32} {g' : mm_M} {g : mm_M} {r0 : Nat} {x4 : Int32} {u0 : Nat} {t1 : Int32} {H : Heap} {locs : List Loc} {ls : Array Slot} (hX : mm_X L prog_9_method_21_code 6 "LoanArrowsModel" (some .int) 2 43 p l R s m meth c) (h : f_Mo_lend_b69 L.1 g r0 x4 u0 t1 = some (eo, v, g')) (hP : mm_P L g H) (hF : ∀ q ∈ locs, mm_F L q.base) (hl : lv_has ls 6 [(0, .ref (L.2.1 20 r0)), (4, .int x4)]) (hv_r0 : mm_lv L.1 20 r0) (hv_u0 : mm_lv L.1 20 u0) : W p l e R s m args below meth c H locs 0 0 (mm_Q below L s (mm_oi eo v) g') (F0 m 69 ls [.int t1, .ref (L.2.1 20 u0)]) := by
  have hX0 := hX
  obtain ⟨hx, hb, hml, hown, hr, hlk, hex, hRf, hRl, hRc, hRs, hJ, hK, hst, h00⟩ := hX0
  unfold f_Mo_lend_b69 at h
  refine lv_iconst (v := 0) hx hb d_Mo_lend_69 (by decide) ?_
  exact w_Mo_lend_b70 hX h hP hF (lv_sub (l' := [(0, .ref (L.2.1 20 r0)), (4, .int x4)]) hl [0, 1] rfl) hv_r0 hv_u0
def f_Mo_lend_b28 (n : Nat) (g : mm_M) (r0 : Nat) (x1 : Int32) (x2 : Int32) (x3 : Int32) (t0 : Int32) : Option (Nat × Int32 × mm_M) :=
  (if x3 = 0 then mm_ix x1 12 ((if (g 22 0 x1.toNatClampNeg) = 0 then mm_ix x2 3 ((if (g 23 0 x2.toNatClampNeg) = 0 then f_Mo_lend_b65 n g r0 t0 r0 x3 else mm_ix t0 36 ((if (g 26 0 t0.toNatClampNeg) = 2 then f_Mo_lend_b69 n g r0 t0 r0 x3 else f_Mo_lend_b65 n g r0 t0 r0 x3)))) else f_Mo_lend_b65 n g r0 t0 r0 x3)) else f_Mo_lend_b69 n g r0 t0 r0 x3)
set_option maxRecDepth 100000 in
set_option maxHeartbeats 4000000 in
theorem w_Mo_lend_b28 {p : Program} {l : Launch} {e : Env} {R : Room} {s : State} {m : MethodId} {args : Array Value} {below : List Frame} {meth : Method} {c : Code} {L : mm_L} {eo : Nat} {v : Int32} {g' : mm_M} {g : mm_M} {r0 : Nat} {x1 : Int32} {x2 : Int32} {x3 : Int32} {t0 : Int32} {H : Heap} {locs : List Loc} {ls : Array Slot} (hX : mm_X L prog_9_method_21_code 6 "LoanArrowsModel" (some .int) 2 43 p l R s m meth c) (h : f_Mo_lend_b28 L.1 g r0 x1 x2 x3 t0 = some (eo, v, g')) (hP : mm_P L g H) (hF : ∀ q ∈ locs, mm_F L q.base) (hl : lv_has ls 6 [(0, .ref (L.2.1 20 r0)), (1, .int x1), (2, .int x2), (3, .int x3)]) (hv_r0 : mm_lv L.1 20 r0) : W p l e R s m args below meth c H locs 0 0 (mm_Q below L s (mm_oi eo v) g') (F0 m 28 ls [.int t0]) := by
  have hX0 := hX
  obtain ⟨hx, hb, hml, hown, hr, hlk, hex, hRf, hRl, hRc, hRs, hJ, hK, hst, h00⟩ := hX0
  unfold f_Mo_lend_b28 at h
  refine lv_istore hx hb d_Mo_lend_28 hl (Nat.lt_of_lt_of_le (Nat.lt_succ_self _) (Nat.le_of_ble_eq_true rfl)) rfl (fun ls hl => ?_)
  have hl : lv_has ls 6 [(4, .int t0), (0, .ref (L.2.1 20 r0)), (1, .int x1), (2, .int x2), (3, .int x3)] := hl
  refine lv_aload_n hx hb d_Mo_lend_30 rfl (lv_at hl 1 rfl) ?_
  refine lv_iload_n hx hb d_Mo_lend_31 rfl (lv_at hl 4 rfl) ?_
  refine lv_iload_n hx hb d_Mo_lend_32 rfl (lv_at hl 4 rfl) ?_
  refine lv_if_ne (tgt := 69) hx hb d_Mo_lend_33 rfl (fun hc => ?_) (fun hc => ?_)
  · have h := mm_neg hc h
    exact w_Mo_lend_b69 hX h hP hF (lv_sub (l' := [(0, .ref (L.2.1 20 r0)), (4, .int t0)]) hl [1, 0] rfl) hv_r0 hv_r0
  · have h := mm_pos hc h
    refine lv_aload_n hx hb d_Mo_lend_36 rfl (lv_at hl 1 rfl) ?_
    refine mm_get (h := 20) (i := r0) 3 hX hP hv_r0 rfl rfl uin_20 (by decide) ⟨rfl, rfl, rfl⟩ wt_615 rfl d_Mo_lend_37 ?_
    refine lv_iload_n hx hb d_Mo_lend_40 rfl (lv_at hl 2 rfl) ?_
    obtain ⟨hin, h⟩ := mm_ix_some h
    refine mm_zald (h := 22) (i := 0) hX hP mm_ls22 (fun _ => rfl) rfl hin d_Mo_lend_41 ?_
    refine lv_if_ne (tgt := 65) hx hb d_Mo_lend_42 rfl (fun hc => ?_) (fun hc => ?_)
    · have h := mm_neg hc h
      exact w_Mo_lend_b65 hX h hP hF (lv_sub (l' := [(0, .ref (L.2.1 20 r0)), (4, .int t0)]) hl [1, 0] rfl) hv_r0 hv_r0
    · have h := mm_pos hc h
      refine lv_aload_n hx hb d_Mo_lend_45 rfl (lv_at hl 1 rfl) ?_
      refine mm_get (h := 20) (i := r0) 4 hX hP hv_r0 rfl rfl uin_20 (by decide) ⟨rfl, rfl, rfl⟩ wt_616 rfl d_Mo_lend_46 ?_
      refine lv_iload_n hx hb d_Mo_lend_49 rfl (lv_at hl 3 rfl) ?_
      obtain ⟨hin, h⟩ := mm_ix_some h
      refine mm_zald (h := 23) (i := 0) hX hP mm_ls23 (fun _ => rfl) rfl hin d_Mo_lend_50 ?_
      refine lv_if_eq (tgt := 65) hx hb d_Mo_lend_51 rfl (fun hc => ?_) (fun hc => ?_)
      · have h := mm_pos hc h
        exact w_Mo_lend_b65 hX h hP hF (lv_sub (l' := [(0, .ref (L.2.1 20 r0)), (4, .int t0)]) hl [1, 0] rfl) hv_r0 hv_r0
      · have h := mm_neg hc h
        refine lv_aload_n hx hb d_Mo_lend_54 rfl (lv_at hl 1 rfl) ?_
        refine mm_get (h := 20) (i := r0) 7 hX hP hv_r0 rfl rfl uin_20 (by decide) ⟨rfl, rfl, rfl⟩ wt_619 rfl d_Mo_lend_55 ?_
        refine lv_iload hx hb d_Mo_lend_58 (lv_at hl 0 rfl) ?_
        obtain ⟨hin, h⟩ := mm_ix_some h
        refine mm_iald (h := 26) (i := 0) hX hP mm_ls26 (fun _ => rfl) rfl hin d_Mo_lend_60 ?_
        refine lv_iconst (v := 2) hx hb d_Mo_lend_61 (by decide) ?_
        refine lv_icmp_eq (tgt := 69) hx hb d_Mo_lend_62 rfl (fun hc => ?_) (fun hc => ?_)
        · have h := mm_pos hc h
          exact w_Mo_lend_b69 hX h hP hF (lv_sub (l' := [(0, .ref (L.2.1 20 r0)), (4, .int t0)]) hl [1, 0] rfl) hv_r0 hv_r0
        · have h := mm_neg hc h
          exact w_Mo_lend_b65 hX h hP hF (lv_sub (l' := [(0, .ref (L.2.1 20 r0)), (4, .int t0)]) hl [1, 0] rfl) hv_r0 hv_r0
def f_Mo_lend_b14 (n : Nat) (g : mm_M) (r0 : Nat) (x1 : Int32) (x2 : Int32) (t0 : Int32) : Option (Nat × Int32 × mm_M) :=
  (if t0 = 0 then mm_bd (f_Mo_at n g x1 x2) 0 (fun z1 g2 => f_Mo_lend_b28 n g2 r0 x1 x2 t0 z1) else f_Mo_lend_b28 n g r0 x1 x2 t0 0)
set_option maxRecDepth 100000 in
set_option maxHeartbeats 4000000 in
theorem w_Mo_lend_b14 {p : Program} {l : Launch} {e : Env} {R : Room} {s : State} {m : MethodId} {args : Array Value} {below : List Frame} {meth : Method} {c : Code} {L : mm_L} {eo : Nat} {v : Int32} {g' : mm_M} {g : mm_M} {r0 : Nat} {x1 : Int32} {x2 : Int32} {t0 : Int32} {H : Heap} {locs : List Loc} {ls : Array Slot} (hX : mm_X L prog_9_method_21_code 6 "LoanArrowsModel" (some .int) 2 43 p l R s m meth c) (h : f_Mo_lend_b14 L.1 g r0 x1 x2 t0 = some (eo, v, g')) (hP : mm_P L g H) (hF : ∀ q ∈ locs, mm_F L q.base) (hl : lv_has ls 6 [(0, .ref (L.2.1 20 r0)), (1, .int x1), (2, .int x2)]) (hv_r0 : mm_lv L.1 20 r0) : W p l e R s m args below meth c H locs 0 0 (mm_Q below L s (mm_oi eo v) g') (F0 m 14 ls [.int t0]) := by
  have hX0 := hX
  obtain ⟨hx, hb, hml, hown, hr, hlk, hex, hRf, hRl, hRc, hRs, hJ, hK, hst, h00⟩ := hX0
  unfold f_Mo_lend_b14 at h
  refine lv_istore_n hx hb d_Mo_lend_14 rfl hl (Nat.lt_of_lt_of_le (Nat.lt_succ_self _) (Nat.le_of_ble_eq_true rfl)) rfl (fun ls hl => ?_)
  have hl : lv_has ls 6 [(3, .int t0), (0, .ref (L.2.1 20 r0)), (1, .int x1), (2, .int x2)] := hl
  refine lv_iload_n hx hb d_Mo_lend_15 rfl (lv_at hl 0 rfl) ?_
  refine lv_if_eq (tgt := 23) hx hb d_Mo_lend_16 rfl (fun hc => ?_) (fun hc => ?_)
  · have h := mm_pos hc h
    refine lv_iload_n hx hb d_Mo_lend_23 rfl (lv_at hl 2 rfl) ?_
    refine lv_iload_n hx hb d_Mo_lend_24 rfl (lv_at hl 3 rfl) ?_
    rcases mm_bd_some h with ⟨z1, g2, hf3, h⟩ | ⟨xe, z1, g2, hf3, h⟩
    · refine mm_goR (v := (some (.int z1))) (mm_goS (As := [.int x1, .int x2]) (rest := []) hX (c_Mo_at hf3) yw_Mo_at wt_717 wt_718 wt_8 hP hF rfl hl.1 (Nat.le_of_ble_eq_true rfl) (by decide) (by decide) hRc hRs d_Mo_lend_25) hF (fun H locs hP hF _ => ?_)
      exact w_Mo_lend_b28 hX h hP hF (lv_sub (l' := [(0, .ref (L.2.1 20 r0)), (1, .int x1), (2, .int x2), (3, .int t0)]) hl [1, 2, 3, 0] rfl) hv_r0
    · cases h
      exact mm_goT (x := xe + 1) (mm_goS (As := [.int x1, .int x2]) (rest := []) hX (c_Mo_at hf3) yw_Mo_at wt_717 wt_718 wt_8 hP hF rfl hl.1 (Nat.le_of_ble_eq_true rfl) (by decide) (by decide) hRc hRs d_Mo_lend_25) hF hex hlk
  · have h := mm_neg hc h
    refine lv_iconst (v := 0) hx hb d_Mo_lend_19 (by decide) ?_
    refine lv_goto (tgt := 28) hx hb d_Mo_lend_20 rfl ?_
    exact w_Mo_lend_b28 hX h hP hF (lv_sub (l' := [(0, .ref (L.2.1 20 r0)), (1, .int x1), (2, .int x2), (3, .int t0)]) hl [1, 2, 3, 0] rfl) hv_r0
def f_Mo_lend (n : Nat) (g : mm_M) (r0 : Nat) (x1 : Int32) (x2 : Int32) : Option (Nat × Int32 × mm_M) :=
  mm_bd (f_Mo_isPair n g r0 x1 x2) 0 (fun z1 g2 => (if z1 = 0 then f_Mo_lend_b14 n g2 r0 x1 x2 1 else f_Mo_lend_b14 n g2 r0 x1 x2 0))
set_option maxRecDepth 100000 in
set_option maxHeartbeats 4000000 in
theorem w_Mo_lend {p : Program} {l : Launch} {e : Env} {R : Room} {s : State} {m : MethodId} {args : Array Value} {below : List Frame} {meth : Method} {c : Code} {L : mm_L} {eo : Nat} {v : Int32} {g' : mm_M} {g : mm_M} {r0 : Nat} {x1 : Int32} {x2 : Int32} {H : Heap} {locs : List Loc} {ls : Array Slot} (hX : mm_X L prog_9_method_21_code 6 "LoanArrowsModel" (some .int) 2 43 p l R s m meth c) (h : f_Mo_lend L.1 g r0 x1 x2 = some (eo, v, g')) (hP : mm_P L g H) (hF : ∀ q ∈ locs, mm_F L q.base) (hl : lv_has ls 6 [(0, .ref (L.2.1 20 r0)), (1, .int x1), (2, .int x2)]) (hv_r0 : mm_lv L.1 20 r0) : W p l e R s m args below meth c H locs 0 0 (mm_Q below L s (mm_oi eo v) g') (F0 m 0 ls []) := by
  have hX0 := hX
  obtain ⟨hx, hb, hml, hown, hr, hlk, hex, hRf, hRl, hRc, hRs, hJ, hK, hst, h00⟩ := hX0
  unfold f_Mo_lend at h
  refine lv_aload_n hx hb d_Mo_lend_0 rfl (lv_at hl 0 rfl) ?_
  refine lv_iload_n hx hb d_Mo_lend_1 rfl (lv_at hl 1 rfl) ?_
  refine lv_iload_n hx hb d_Mo_lend_2 rfl (lv_at hl 2 rfl) ?_
  rcases mm_bd_some h with ⟨z1, g2, hf3, h⟩ | ⟨xe, z1, g2, hf3, h⟩
  · refine mm_goR (v := (some (.int z1))) (mm_goV (As := [.int x1, .int x2]) (rest := []) hX (c_Mo_isPair hv_r0 hf3) yw_Mo_isPair wt_702 wt_704 ws_0_11 hP hF (mm_recv (h := 20) (i := r0) hX hP hv_r0 rfl rfl) rfl hl.1 (Nat.le_of_ble_eq_true rfl) (by decide) (by decide) hRc hRs d_Mo_lend_3) hF (fun H locs hP hF _ => ?_)
    refine lv_if_ne (tgt := 13) hx hb d_Mo_lend_6 rfl (fun hc => ?_) (fun hc => ?_)
    · have h := mm_neg hc h
      refine lv_iconst (v := 0) hx hb d_Mo_lend_13 (by decide) ?_
      exact w_Mo_lend_b14 hX h hP hF (lv_sub (l' := [(0, .ref (L.2.1 20 r0)), (1, .int x1), (2, .int x2)]) hl [0, 1, 2] rfl) hv_r0
    · have h := mm_pos hc h
      refine lv_iconst (v := 1) hx hb d_Mo_lend_9 (by decide) ?_
      refine lv_goto (tgt := 14) hx hb d_Mo_lend_10 rfl ?_
      exact w_Mo_lend_b14 hX h hP hF (lv_sub (l' := [(0, .ref (L.2.1 20 r0)), (1, .int x1), (2, .int x2)]) hl [0, 1, 2] rfl) hv_r0
  · cases h
    exact mm_goT (x := xe + 1) (mm_goV (As := [.int x1, .int x2]) (rest := []) hX (c_Mo_isPair hv_r0 hf3) yw_Mo_isPair wt_702 wt_704 ws_0_11 hP hF (mm_recv (h := 20) (i := r0) hX hP hv_r0 rfl rfl) rfl hl.1 (Nat.le_of_ble_eq_true rfl) (by decide) (by decide) hRc hRs d_Mo_lend_3) hF hex hlk
set_option maxRecDepth 100000 in
set_option maxHeartbeats 4000000 in
theorem c_Mo_lend {l : Launch} {L : mm_L} {g g' : mm_M} {eo : Nat} {v : Int32} {r0 : Nat} {x1 : Int32} {x2 : Int32} (hv_r0 : mm_lv L.1 20 r0) (h : f_Mo_lend L.1 g r0 x1 x2 = some (eo, v, g')) : mm_C l y_Mo_lend prog_9_method_21_code 6 (some .int) 2 43 L [.ref (L.2.1 20 r0), .int x1, .int x2] g (mm_oi eo v) g' := by
  intro p e R s m below meth c hX hP
  refine mm_enter (Nat.le_of_ble_eq_true rfl) fun ls hl => ?_
  exact w_Mo_lend hX h hP (fun q hq => by cases hq) (lv_sub (l' := [(0, .ref (L.2.1 20 r0)), (1, .int x1), (2, .int x2)]) hl [0, 1, 2] rfl) hv_r0
def f_Mo_giveBack_b170 (n : Nat) (g : mm_M) (r0 : Nat) (x4 : Int32) : Option (Nat × Int32 × mm_M) :=
  mm_ix x4 36 (some (0, (g 26 0 x4.toNatClampNeg), g))
set_option maxRecDepth 100000 in
set_option maxHeartbeats 4000000 in
theorem w_Mo_giveBack_b170 {p : Program} {l : Launch} {e : Env} {R : Room} {s : State} {m : MethodId} {args : Array Value} {below : List Frame} {meth : Method} {c : Code} {L : mm_L} {eo : Nat} {v : Int32} {g' : mm_M} {g : mm_M} {r0 : Nat} {x4 : Int32} {H : Heap} {locs : List Loc} {ls : Array Slot} (hX : mm_X L prog_9_method_22_code 5 "LoanArrowsModel" (some .int) 4 100 p l R s m meth c) (h : f_Mo_giveBack_b170 L.1 g r0 x4 = some (eo, v, g')) (hP : mm_P L g H) (hF : ∀ q ∈ locs, mm_F L q.base) (hl : lv_has ls 5 [(0, .ref (L.2.1 20 r0)), (4, .int x4)]) (hv_r0 : mm_lv L.1 20 r0) : W p l e R s m args below meth c H locs 0 0 (mm_Q below L s (mm_oi eo v) g') (F0 m 170 ls []) := by
  have hX0 := hX
  obtain ⟨hx, hb, hml, hown, hr, hlk, hex, hRf, hRl, hRc, hRs, hJ, hK, hst, h00⟩ := hX0
  unfold f_Mo_giveBack_b170 at h
  refine lv_aload_n hx hb d_Mo_giveBack_170 rfl (lv_at hl 0 rfl) ?_
  refine mm_get (h := 20) (i := r0) 7 hX hP hv_r0 rfl rfl uin_20 (by decide) ⟨rfl, rfl, rfl⟩ wt_619 rfl d_Mo_giveBack_171 ?_
  refine lv_iload hx hb d_Mo_giveBack_174 (lv_at hl 1 rfl) ?_
  obtain ⟨hin, h⟩ := mm_ix_some h
  refine mm_iald (h := 26) (i := 0) hX hP mm_ls26 (fun _ => rfl) rfl hin d_Mo_giveBack_176 ?_
  cases h
  exact mm_iret hx hb hr hlk hP hF d_Mo_giveBack_177
def f_Mo_giveBack_b154 (n : Nat) (g : mm_M) (r0 : Nat) (x1 : Int32) (x2 : Int32) (x4 : Int32) : Option (Nat × Int32 × mm_M) :=
  mm_ix x4 36 ((if (g 28 0 x4.toNatClampNeg) ≤ 0 then f_Mo_giveBack_b170 n g r0 x4 else mm_bd (f_Mo_opn n g r0 x1 x2) 0 (fun z1 g2 => f_Mo_giveBack_b170 n g2 r0 x4)))
set_option maxRecDepth 100000 in
set_option maxHeartbeats 4000000 in
theorem w_Mo_giveBack_b154 {p : Program} {l : Launch} {e : Env} {R : Room} {s : State} {m : MethodId} {args : Array Value} {below : List Frame} {meth : Method} {c : Code} {L : mm_L} {eo : Nat} {v : Int32} {g' : mm_M} {g : mm_M} {r0 : Nat} {x1 : Int32} {x2 : Int32} {x4 : Int32} {H : Heap} {locs : List Loc} {ls : Array Slot} (hX : mm_X L prog_9_method_22_code 5 "LoanArrowsModel" (some .int) 4 100 p l R s m meth c) (h : f_Mo_giveBack_b154 L.1 g r0 x1 x2 x4 = some (eo, v, g')) (hP : mm_P L g H) (hF : ∀ q ∈ locs, mm_F L q.base) (hl : lv_has ls 5 [(0, .ref (L.2.1 20 r0)), (1, .int x1), (2, .int x2), (4, .int x4)]) (hv_r0 : mm_lv L.1 20 r0) : W p l e R s m args below meth c H locs 0 0 (mm_Q below L s (mm_oi eo v) g') (F0 m 154 ls []) := by
  have hX0 := hX
  obtain ⟨hx, hb, hml, hown, hr, hlk, hex, hRf, hRl, hRc, hRs, hJ, hK, hst, h00⟩ := hX0
  unfold f_Mo_giveBack_b154 at h
  refine lv_aload_n hx hb d_Mo_giveBack_154 rfl (lv_at hl 0 rfl) ?_
  refine mm_get (h := 20) (i := r0) 9 hX hP hv_r0 rfl rfl uin_20 (by decide) ⟨rfl, rfl, rfl⟩ wt_621 rfl d_Mo_giveBack_155 ?_
  refine lv_iload hx hb d_Mo_giveBack_158 (lv_at hl 3 rfl) ?_
  obtain ⟨hin, h⟩ := mm_ix_some h
  refine mm_iald (h := 28) (i := 0) hX hP mm_ls28 (fun _ => rfl) rfl hin d_Mo_giveBack_160 ?_
  refine lv_if_le (tgt := 170) hx hb d_Mo_giveBack_161 rfl (fun hc => ?_) (fun hc => ?_)
  · have h := mm_pos hc h
    exact w_Mo_giveBack_b170 hX h hP hF (lv_sub (l' := [(0, .ref (L.2.1 20 r0)), (4, .int x4)]) hl [0, 3] rfl) hv_r0
  · have h := mm_neg hc h
    refine lv_aload_n hx hb d_Mo_giveBack_164 rfl (lv_at hl 0 rfl) ?_
    refine lv_iload_n hx hb d_Mo_giveBack_165 rfl (lv_at hl 1 rfl) ?_
    refine lv_iload_n hx hb d_Mo_giveBack_166 rfl (lv_at hl 2 rfl) ?_
    rcases mm_bd_some h with ⟨z1, g2, hf3, h⟩ | ⟨xe, z1, g2, hf3, h⟩
    · refine mm_goR (v := none) (mm_goV (As := [.int x1, .int x2]) (rest := []) hX (c_Mo_opn hv_r0 hf3) yw_Mo_opn wt_736 wt_738 ws_1_1 hP hF (mm_recv (h := 20) (i := r0) hX hP hv_r0 rfl rfl) rfl hl.1 (Nat.le_of_ble_eq_true rfl) (by decide) (by decide) hRc hRs d_Mo_giveBack_167) hF (fun H locs hP hF _ => ?_)
      exact w_Mo_giveBack_b170 hX h hP hF (lv_sub (l' := [(0, .ref (L.2.1 20 r0)), (4, .int x4)]) hl [0, 3] rfl) hv_r0
    · cases h
      exact mm_goT (x := xe + 1) (mm_goV (As := [.int x1, .int x2]) (rest := []) hX (c_Mo_opn hv_r0 hf3) yw_Mo_opn wt_736 wt_738 ws_1_1 hP hF (mm_recv (h := 20) (i := r0) hX hP hv_r0 rfl rfl) rfl hl.1 (Nat.le_of_ble_eq_true rfl) (by decide) (by decide) hRc hRs d_Mo_giveBack_167) hF hex hlk
def f_Mo_giveBack_b119 (n : Nat) (g : mm_M) (r0 : Nat) (x1 : Int32) (x2 : Int32) (x4 : Int32) : Option (Nat × Int32 × mm_M) :=
  mm_ix x4 36 (mm_let (mm_st g 27 0 x4.toNatClampNeg 0) (fun g1 => mm_ix x4 36 ((if (g1 25 0 x4.toNatClampNeg) < 0 then mm_ix x4 36 (mm_let (mm_st g1 26 0 x4.toNatClampNeg 4) (fun g3 => f_Mo_giveBack_b154 n g3 r0 x1 x2 x4)) else mm_bd (f_Mo_sendOn n g1 r0 x1 x2) 0 (fun z5 g6 => f_Mo_giveBack_b154 n g6 r0 x1 x2 x4)))))
set_option maxRecDepth 100000 in
set_option maxHeartbeats 4000000 in
theorem w_Mo_giveBack_b119 {p : Program} {l : Launch} {e : Env} {R : Room} {s : State} {m : MethodId} {args : Array Value} {below : List Frame} {meth : Method} {c : Code} {L : mm_L} {eo : Nat} {v : Int32} {g' : mm_M} {g : mm_M} {r0 : Nat} {x1 : Int32} {x2 : Int32} {x4 : Int32} {H : Heap} {locs : List Loc} {ls : Array Slot} (hX : mm_X L prog_9_method_22_code 5 "LoanArrowsModel" (some .int) 4 100 p l R s m meth c) (h : f_Mo_giveBack_b119 L.1 g r0 x1 x2 x4 = some (eo, v, g')) (hP : mm_P L g H) (hF : ∀ q ∈ locs, mm_F L q.base) (hl : lv_has ls 5 [(0, .ref (L.2.1 20 r0)), (1, .int x1), (2, .int x2), (4, .int x4)]) (hv_r0 : mm_lv L.1 20 r0) : W p l e R s m args below meth c H locs 0 0 (mm_Q below L s (mm_oi eo v) g') (F0 m 119 ls []) := by
  have hX0 := hX
  obtain ⟨hx, hb, hml, hown, hr, hlk, hex, hRf, hRl, hRc, hRs, hJ, hK, hst, h00⟩ := hX0
  unfold f_Mo_giveBack_b119 at h
  refine lv_aload_n hx hb d_Mo_giveBack_119 rfl (lv_at hl 0 rfl) ?_
  refine mm_get (h := 20) (i := r0) 8 hX hP hv_r0 rfl rfl uin_20 (by decide) ⟨rfl, rfl, rfl⟩ wt_620 rfl d_Mo_giveBack_120 ?_
  refine lv_iload hx hb d_Mo_giveBack_123 (lv_at hl 3 rfl) ?_
  refine lv_iconst (v := 0) hx hb d_Mo_giveBack_125 (by decide) ?_
  obtain ⟨hin, h⟩ := mm_ix_some h
  refine mm_iast (h := 27) (i := 0) hX hP hF mm_ls27 (fun _ => rfl) rfl hin d_Mo_giveBack_126 (fun H locs hP hF => ?_)
  obtain ⟨g1, e2, h⟩ := mm_let_ex h
  have hP : mm_P L g1 H := by rw [e2]; exact hP
  refine lv_aload_n hx hb d_Mo_giveBack_127 rfl (lv_at hl 0 rfl) ?_
  refine mm_get (h := 20) (i := r0) 6 hX hP hv_r0 rfl rfl uin_20 (by decide) ⟨rfl, rfl, rfl⟩ wt_618 rfl d_Mo_giveBack_128 ?_
  refine lv_iload hx hb d_Mo_giveBack_131 (lv_at hl 3 rfl) ?_
  obtain ⟨hin, h⟩ := mm_ix_some h
  refine mm_iald (h := 25) (i := 0) hX hP mm_ls25 (fun _ => rfl) rfl hin d_Mo_giveBack_133 ?_
  refine lv_if_lt (tgt := 146) hx hb d_Mo_giveBack_134 rfl (fun hc => ?_) (fun hc => ?_)
  · have h := mm_pos hc h
    refine lv_aload_n hx hb d_Mo_giveBack_146 rfl (lv_at hl 0 rfl) ?_
    refine mm_get (h := 20) (i := r0) 7 hX hP hv_r0 rfl rfl uin_20 (by decide) ⟨rfl, rfl, rfl⟩ wt_619 rfl d_Mo_giveBack_147 ?_
    refine lv_iload hx hb d_Mo_giveBack_150 (lv_at hl 3 rfl) ?_
    refine lv_iconst (v := 4) hx hb d_Mo_giveBack_152 (by decide) ?_
    obtain ⟨hin, h⟩ := mm_ix_some h
    refine mm_iast (h := 26) (i := 0) hX hP hF mm_ls26 (fun _ => rfl) rfl hin d_Mo_giveBack_153 (fun H locs hP hF => ?_)
    obtain ⟨g3, e4, h⟩ := mm_let_ex h
    have hP : mm_P L g3 H := by rw [e4]; exact hP
    exact w_Mo_giveBack_b154 hX h hP hF (lv_sub (l' := [(0, .ref (L.2.1 20 r0)), (1, .int x1), (2, .int x2), (4, .int x4)]) hl [0, 1, 2, 3] rfl) hv_r0
  · have h := mm_neg hc h
    refine lv_aload_n hx hb d_Mo_giveBack_137 rfl (lv_at hl 0 rfl) ?_
    refine lv_iload_n hx hb d_Mo_giveBack_138 rfl (lv_at hl 1 rfl) ?_
    refine lv_iload_n hx hb d_Mo_giveBack_139 rfl (lv_at hl 2 rfl) ?_
    rcases mm_bd_some h with ⟨z5, g6, hf7, h⟩ | ⟨xe, z5, g6, hf7, h⟩
    · refine mm_goR (v := none) (mm_goV (As := [.int x1, .int x2]) (rest := []) hX (c_Mo_sendOn hv_r0 hf7) yw_Mo_sendOn wt_764 wt_766 ws_1_6 hP hF (mm_recv (h := 20) (i := r0) hX hP hv_r0 rfl rfl) rfl hl.1 (Nat.le_of_ble_eq_true rfl) (by decide) (by decide) hRc hRs d_Mo_giveBack_140) hF (fun H locs hP hF _ => ?_)
      refine lv_goto (tgt := 154) hx hb d_Mo_giveBack_143 rfl ?_
      exact w_Mo_giveBack_b154 hX h hP hF (lv_sub (l' := [(0, .ref (L.2.1 20 r0)), (1, .int x1), (2, .int x2), (4, .int x4)]) hl [0, 1, 2, 3] rfl) hv_r0
    · cases h
      exact mm_goT (x := xe + 1) (mm_goV (As := [.int x1, .int x2]) (rest := []) hX (c_Mo_sendOn hv_r0 hf7) yw_Mo_sendOn wt_764 wt_766 ws_1_6 hP hF (mm_recv (h := 20) (i := r0) hX hP hv_r0 rfl rfl) rfl hl.1 (Nat.le_of_ble_eq_true rfl) (by decide) (by decide) hRc hRs d_Mo_giveBack_140) hF hex hlk
def f_Mo_giveBack_b70 (n : Nat) (g : mm_M) (r0 : Nat) (x1 : Int32) (x2 : Int32) (x4 : Int32) (u0 : Nat) (t1 : Int32) (t2 : Int32) : Option (Nat × Int32 × mm_M) :=
  mm_bd (f_Mo_refused n g u0 t1 t2 0) 0 (fun z1 g2 => (if z1 = 0 then mm_ix x2 3 ((if 200 ≤ (g2 32 0 x2.toNatClampNeg) then f_Mo_giveBack_b119 n g2 r0 x1 x2 x4 else mm_ix x2 3 (mm_ix ((200 * x2) + (g2 32 0 x2.toNatClampNeg)) 600 (mm_let (mm_st g2 33 0 ((200 * x2) + (g2 32 0 x2.toNatClampNeg)).toNatClampNeg x1) (fun g4 => mm_ix x2 3 (mm_ix x2 3 (mm_let (mm_st g4 32 0 x2.toNatClampNeg ((g4 32 0 x2.toNatClampNeg) + 1)) (fun g6 => f_Mo_giveBack_b119 n g6 r0 x1 x2 x4)))))))) else some (0, 0, g2)))
set_option maxRecDepth 100000 in
set_option maxHeartbeats 4000000 in
theorem w_Mo_giveBack_b70 {p : Program} {l : Launch} {e : Env} {R : Room} {s : State} {m : MethodId} {args : Array Value} {below : List Frame} {meth : Method} {c : Code} {L : mm_L} {eo : Nat} {v : Int32} {g' : mm_M} {g : mm_M} {r0 : Nat} {x1 : Int32} {x2 : Int32} {x4 : Int32} {u0 : Nat} {t1 : Int32} {t2 : Int32} {H : Heap} {locs : List Loc} {ls : Array Slot} (hX : mm_X L prog_9_method_22_code 5 "LoanArrowsModel" (some .int) 4 100 p l R s m meth c) (h : f_Mo_giveBack_b70 L.1 g r0 x1 x2 x4 u0 t1 t2 = some (eo, v, g')) (hP : mm_P L g H) (hF : ∀ q ∈ locs, mm_F L q.base) (hl : lv_has ls 5 [(0, .ref (L.2.1 20 r0)), (1, .int x1), (2, .int x2), (4, .int x4)]) (hv_r0 : mm_lv L.1 20 r0) (hv_u0 : mm_lv L.1 20 u0) : W p l e R s m args below meth c H locs 0 0 (mm_Q below L s (mm_oi eo v) g') (F0 m 70 ls [.int t2, .int t1, .ref (L.2.1 20 u0)]) := by
  have hX0 := hX
  obtain ⟨hx, hb, hml, hown, hr, hlk, hex, hRf, hRl, hRc, hRs, hJ, hK, hst, h00⟩ := hX0
  unfold f_Mo_giveBack_b70 at h
  refine lv_iconst (v := 0) hx hb d_Mo_giveBack_70 (by decide) ?_
  rcases mm_bd_some h with ⟨z1, g2, hf3, h⟩ | ⟨xe, z1, g2, hf3, h⟩
  · refine mm_goR (v := (some (.int z1))) (mm_goV (As := [.int t1, .int t2, .int 0]) (rest := []) hX (c_Mo_refused hv_u0 hf3) yw_Mo_refused wt_713 wt_715 ws_0_13 hP hF (mm_recv (h := 20) (i := u0) hX hP hv_u0 rfl rfl) rfl hl.1 (Nat.le_of_ble_eq_true rfl) (by decide) (by decide) hRc hRs d_Mo_giveBack_71) hF (fun H locs hP hF _ => ?_)
    refine lv_if_eq (tgt := 79) hx hb d_Mo_giveBack_74 rfl (fun hc => ?_) (fun hc => ?_)
    · have h := mm_pos hc h
      refine lv_aload_n hx hb d_Mo_giveBack_79 rfl (lv_at hl 0 rfl) ?_
      refine mm_get (h := 20) (i := r0) 13 hX hP hv_r0 rfl rfl uin_20 (by decide) ⟨rfl, rfl, rfl⟩ wt_625 rfl d_Mo_giveBack_80 ?_
      refine lv_iload_n hx hb d_Mo_giveBack_83 rfl (lv_at hl 2 rfl) ?_
      obtain ⟨hin, h⟩ := mm_ix_some h
      refine mm_iald (h := 32) (i := 0) hX hP mm_ls32 (fun _ => rfl) rfl hin d_Mo_giveBack_84 ?_
      refine lv_sipush (v := 200) hx hb d_Mo_giveBack_85 (by decide) ?_
      refine lv_icmp_ge (tgt := 119) hx hb d_Mo_giveBack_88 rfl (fun hc => ?_) (fun hc => ?_)
      · have h := mm_pos hc h
        exact w_Mo_giveBack_b119 hX h hP hF (lv_sub (l' := [(0, .ref (L.2.1 20 r0)), (1, .int x1), (2, .int x2), (4, .int x4)]) hl [0, 1, 2, 3] rfl) hv_r0
      · have h := mm_neg hc h
        refine lv_aload_n hx hb d_Mo_giveBack_91 rfl (lv_at hl 0 rfl) ?_
        refine mm_get (h := 20) (i := r0) 14 hX hP hv_r0 rfl rfl uin_20 (by decide) ⟨rfl, rfl, rfl⟩ wt_626 rfl d_Mo_giveBack_92 ?_
        refine lv_sipush (v := 200) hx hb d_Mo_giveBack_95 (by decide) ?_
        refine lv_iload_n hx hb d_Mo_giveBack_98 rfl (lv_at hl 2 rfl) ?_
        refine lv_imul hx hb d_Mo_giveBack_99 ?_
        refine lv_aload_n hx hb d_Mo_giveBack_100 rfl (lv_at hl 0 rfl) ?_
        refine mm_get (h := 20) (i := r0) 13 hX hP hv_r0 rfl rfl uin_20 (by decide) ⟨rfl, rfl, rfl⟩ wt_625 rfl d_Mo_giveBack_101 ?_
        refine lv_iload_n hx hb d_Mo_giveBack_104 rfl (lv_at hl 2 rfl) ?_
        obtain ⟨hin, h⟩ := mm_ix_some h
        refine mm_iald (h := 32) (i := 0) hX hP mm_ls32 (fun _ => rfl) rfl hin d_Mo_giveBack_105 ?_
        refine lv_iadd hx hb d_Mo_giveBack_106 ?_
        refine lv_iload_n hx hb d_Mo_giveBack_107 rfl (lv_at hl 1 rfl) ?_
        obtain ⟨hin, h⟩ := mm_ix_some h
        refine mm_iast (h := 33) (i := 0) hX hP hF mm_ls33 (fun _ => rfl) rfl hin d_Mo_giveBack_108 (fun H locs hP hF => ?_)
        obtain ⟨g4, e5, h⟩ := mm_let_ex h
        have hP : mm_P L g4 H := by rw [e5]; exact hP
        refine lv_aload_n hx hb d_Mo_giveBack_109 rfl (lv_at hl 0 rfl) ?_
        refine mm_get (h := 20) (i := r0) 13 hX hP hv_r0 rfl rfl uin_20 (by decide) ⟨rfl, rfl, rfl⟩ wt_625 rfl d_Mo_giveBack_110 ?_
        refine lv_iload_n hx hb d_Mo_giveBack_113 rfl (lv_at hl 2 rfl) ?_
        refine lv_dup2_11 hx hb d_Mo_giveBack_114 rfl rfl ?_
        obtain ⟨hin, h⟩ := mm_ix_some h
        refine mm_iald (h := 32) (i := 0) hX hP mm_ls32 (fun _ => rfl) rfl hin d_Mo_giveBack_115 ?_
        refine lv_iconst (v := 1) hx hb d_Mo_giveBack_116 (by decide) ?_
        refine lv_iadd hx hb d_Mo_giveBack_117 ?_
        obtain ⟨hin, h⟩ := mm_ix_some h
        refine mm_iast (h := 32) (i := 0) hX hP hF mm_ls32 (fun _ => rfl) rfl hin d_Mo_giveBack_118 (fun H locs hP hF => ?_)
        obtain ⟨g6, e7, h⟩ := mm_let_ex h
        have hP : mm_P L g6 H := by rw [e7]; exact hP
        exact w_Mo_giveBack_b119 hX h hP hF (lv_sub (l' := [(0, .ref (L.2.1 20 r0)), (1, .int x1), (2, .int x2), (4, .int x4)]) hl [0, 1, 2, 3] rfl) hv_r0
    · have h := mm_neg hc h
      refine lv_iconst (v := 0) hx hb d_Mo_giveBack_77 (by decide) ?_
      cases h
      exact mm_iret hx hb hr hlk hP hF d_Mo_giveBack_78
  · cases h
    exact mm_goT (x := xe + 1) (mm_goV (As := [.int t1, .int t2, .int 0]) (rest := []) hX (c_Mo_refused hv_u0 hf3) yw_Mo_refused wt_713 wt_715 ws_0_13 hP hF (mm_recv (h := 20) (i := u0) hX hP hv_u0 rfl rfl) rfl hl.1 (Nat.le_of_ble_eq_true rfl) (by decide) (by decide) hRc hRs d_Mo_giveBack_71) hF hex hlk
def f_Mo_giveBack_b65 (n : Nat) (g : mm_M) (r0 : Nat) (x1 : Int32) (x2 : Int32) (x4 : Int32) (u0 : Nat) (t1 : Int32) : Option (Nat × Int32 × mm_M) :=
  f_Mo_giveBack_b70 n g r0 x1 x2 x4 u0 t1 1
set_option maxRecDepth 100000 in
set_option maxHeartbeats 4000000 in
theorem w_Mo_giveBack_b65 {p : Program} {l : Launch} {e : Env} {R : Room} {s : State} {m : MethodId} {args : Array Value} {below : List Frame} {meth : Method} {c : Code} {L : mm_L} {eo : Nat} {v : Int32} {g' : mm_M} {g : mm_M} {r0 : Nat} {x1 : Int32} {x2 : Int32} {x4 : Int32} {u0 : Nat} {t1 : Int32} {H : Heap} {locs : List Loc} {ls : Array Slot} (hX : mm_X L prog_9_method_22_code 5 "LoanArrowsModel" (some .int) 4 100 p l R s m meth c) (h : f_Mo_giveBack_b65 L.1 g r0 x1 x2 x4 u0 t1 = some (eo, v, g')) (hP : mm_P L g H) (hF : ∀ q ∈ locs, mm_F L q.base) (hl : lv_has ls 5 [(0, .ref (L.2.1 20 r0)), (1, .int x1), (2, .int x2), (4, .int x4)]) (hv_r0 : mm_lv L.1 20 r0) (hv_u0 : mm_lv L.1 20 u0) : W p l e R s m args below meth c H locs 0 0 (mm_Q below L s (mm_oi eo v) g') (F0 m 65 ls [.int t1, .ref (L.2.1 20 u0)]) := by
  have hX0 := hX
  obtain ⟨hx, hb, hml, hown, hr, hlk, hex, hRf, hRl, hRc, hRs, hJ, hK, hst, h00⟩ := hX0
  unfold f_Mo_giveBack_b65 at h
  refine lv_iconst (v := 1) hx hb d_Mo_giveBack_65 (by decide) ?_
  refine lv_goto (tgt := 70) hx hb d_Mo_giveBack_66 rfl ?_
  exact w_Mo_giveBack_b70 hX h hP hF (lv_sub (l' := [(0, .ref (L.2.1 20 r0)), (1, .int x1), (2, .int x2), (4, .int x4)]) hl [0, 1, 2, 3] rfl) hv_r0 hv_u0
def f_Mo_giveBack_b69 (n : Nat) (g : mm_M) (r0 : Nat) (x1 : Int32) (x2 : Int32) (x4 : Int32) (u0 : Nat) (t1 : Int32) : Option (Nat × Int32 × mm_M) :=
  f_Mo_giveBack_b70 n g r0 x1 x2 x4 u0 t1 0
set_option maxRecDepth 100000 in
set_option maxHeartbeats 4000000 in
theorem w_Mo_giveBack_b69 {p : Program} {l : Launch} {e : Env} {R : Room} {s : State} {m : MethodId} {args : Array Value} {below : List Frame} {meth : Method} {c : Code} {L : mm_L} {eo : Nat} {v : Int32} {g' : mm_M} {g : mm_M} {r0 : Nat} {x1 : Int32} {x2 : Int32} {x4 : Int32} {u0 : Nat} {t1 : Int32} {H : Heap} {locs : List Loc} {ls : Array Slot} (hX : mm_X L prog_9_method_22_code 5 "LoanArrowsModel" (some .int) 4 100 p l R s m meth c) (h : f_Mo_giveBack_b69 L.1 g r0 x1 x2 x4 u0 t1 = some (eo, v, g')) (hP : mm_P L g H) (hF : ∀ q ∈ locs, mm_F L q.base) (hl : lv_has ls 5 [(0, .ref (L.2.1 20 r0)), (1, .int x1), (2, .int x2), (4, .int x4)]) (hv_r0 : mm_lv L.1 20 r0) (hv_u0 : mm_lv L.1 20 u0) : W p l e R s m args below meth c H locs 0 0 (mm_Q below L s (mm_oi eo v) g') (F0 m 69 ls [.int t1, .ref (L.2.1 20 u0)]) := by
  have hX0 := hX
  obtain ⟨hx, hb, hml, hown, hr, hlk, hex, hRf, hRl, hRc, hRs, hJ, hK, hst, h00⟩ := hX0
  unfold f_Mo_giveBack_b69 at h
  refine lv_iconst (v := 0) hx hb d_Mo_giveBack_69 (by decide) ?_
  exact w_Mo_giveBack_b70 hX h hP hF (lv_sub (l' := [(0, .ref (L.2.1 20 r0)), (1, .int x1), (2, .int x2), (4, .int x4)]) hl [0, 1, 2, 3] rfl) hv_r0 hv_u0
def f_Mo_giveBack_b28 (n : Nat) (g : mm_M) (r0 : Nat) (x1 : Int32) (x2 : Int32) (x3 : Int32) (t0 : Int32) : Option (Nat × Int32 × mm_M) :=
  (if x3 = 0 then mm_ix x1 12 ((if (g 22 0 x1.toNatClampNeg) = 0 then mm_ix x2 3 ((if (g 23 0 x2.toNatClampNeg) = 0 then f_Mo_giveBack_b65 n g r0 x1 x2 t0 r0 x3 else mm_ix t0 36 ((if (g 26 0 t0.toNatClampNeg) = 3 then f_Mo_giveBack_b69 n g r0 x1 x2 t0 r0 x3 else f_Mo_giveBack_b65 n g r0 x1 x2 t0 r0 x3)))) else f_Mo_giveBack_b65 n g r0 x1 x2 t0 r0 x3)) else f_Mo_giveBack_b69 n g r0 x1 x2 t0 r0 x3)
set_option maxRecDepth 100000 in
set_option maxHeartbeats 4000000 in
theorem w_Mo_giveBack_b28 {p : Program} {l : Launch} {e : Env} {R : Room} {s : State} {m : MethodId} {args : Array Value} {below : List Frame} {meth : Method} {c : Code} {L : mm_L} {eo : Nat} {v : Int32} {g' : mm_M} {g : mm_M} {r0 : Nat} {x1 : Int32} {x2 : Int32} {x3 : Int32} {t0 : Int32} {H : Heap} {locs : List Loc} {ls : Array Slot} (hX : mm_X L prog_9_method_22_code 5 "LoanArrowsModel" (some .int) 4 100 p l R s m meth c) (h : f_Mo_giveBack_b28 L.1 g r0 x1 x2 x3 t0 = some (eo, v, g')) (hP : mm_P L g H) (hF : ∀ q ∈ locs, mm_F L q.base) (hl : lv_has ls 5 [(0, .ref (L.2.1 20 r0)), (1, .int x1), (2, .int x2), (3, .int x3)]) (hv_r0 : mm_lv L.1 20 r0) : W p l e R s m args below meth c H locs 0 0 (mm_Q below L s (mm_oi eo v) g') (F0 m 28 ls [.int t0]) := by
  have hX0 := hX
  obtain ⟨hx, hb, hml, hown, hr, hlk, hex, hRf, hRl, hRc, hRs, hJ, hK, hst, h00⟩ := hX0
  unfold f_Mo_giveBack_b28 at h
  refine lv_istore hx hb d_Mo_giveBack_28 hl (Nat.lt_of_lt_of_le (Nat.lt_succ_self _) (Nat.le_of_ble_eq_true rfl)) rfl (fun ls hl => ?_)
  have hl : lv_has ls 5 [(4, .int t0), (0, .ref (L.2.1 20 r0)), (1, .int x1), (2, .int x2), (3, .int x3)] := hl
  refine lv_aload_n hx hb d_Mo_giveBack_30 rfl (lv_at hl 1 rfl) ?_
  refine lv_iload_n hx hb d_Mo_giveBack_31 rfl (lv_at hl 4 rfl) ?_
  refine lv_iload_n hx hb d_Mo_giveBack_32 rfl (lv_at hl 4 rfl) ?_
  refine lv_if_ne (tgt := 69) hx hb d_Mo_giveBack_33 rfl (fun hc => ?_) (fun hc => ?_)
  · have h := mm_neg hc h
    exact w_Mo_giveBack_b69 hX h hP hF (lv_sub (l' := [(0, .ref (L.2.1 20 r0)), (1, .int x1), (2, .int x2), (4, .int t0)]) hl [1, 2, 3, 0] rfl) hv_r0 hv_r0
  · have h := mm_pos hc h
    refine lv_aload_n hx hb d_Mo_giveBack_36 rfl (lv_at hl 1 rfl) ?_
    refine mm_get (h := 20) (i := r0) 3 hX hP hv_r0 rfl rfl uin_20 (by decide) ⟨rfl, rfl, rfl⟩ wt_615 rfl d_Mo_giveBack_37 ?_
    refine lv_iload_n hx hb d_Mo_giveBack_40 rfl (lv_at hl 2 rfl) ?_
    obtain ⟨hin, h⟩ := mm_ix_some h
    refine mm_zald (h := 22) (i := 0) hX hP mm_ls22 (fun _ => rfl) rfl hin d_Mo_giveBack_41 ?_
    refine lv_if_ne (tgt := 65) hx hb d_Mo_giveBack_42 rfl (fun hc => ?_) (fun hc => ?_)
    · have h := mm_neg hc h
      exact w_Mo_giveBack_b65 hX h hP hF (lv_sub (l' := [(0, .ref (L.2.1 20 r0)), (1, .int x1), (2, .int x2), (4, .int t0)]) hl [1, 2, 3, 0] rfl) hv_r0 hv_r0
    · have h := mm_pos hc h
      refine lv_aload_n hx hb d_Mo_giveBack_45 rfl (lv_at hl 1 rfl) ?_
      refine mm_get (h := 20) (i := r0) 4 hX hP hv_r0 rfl rfl uin_20 (by decide) ⟨rfl, rfl, rfl⟩ wt_616 rfl d_Mo_giveBack_46 ?_
      refine lv_iload_n hx hb d_Mo_giveBack_49 rfl (lv_at hl 3 rfl) ?_
      obtain ⟨hin, h⟩ := mm_ix_some h
      refine mm_zald (h := 23) (i := 0) hX hP mm_ls23 (fun _ => rfl) rfl hin d_Mo_giveBack_50 ?_
      refine lv_if_eq (tgt := 65) hx hb d_Mo_giveBack_51 rfl (fun hc => ?_) (fun hc => ?_)
      · have h := mm_pos hc h
        exact w_Mo_giveBack_b65 hX h hP hF (lv_sub (l' := [(0, .ref (L.2.1 20 r0)), (1, .int x1), (2, .int x2), (4, .int t0)]) hl [1, 2, 3, 0] rfl) hv_r0 hv_r0
      · have h := mm_neg hc h
        refine lv_aload_n hx hb d_Mo_giveBack_54 rfl (lv_at hl 1 rfl) ?_
        refine mm_get (h := 20) (i := r0) 7 hX hP hv_r0 rfl rfl uin_20 (by decide) ⟨rfl, rfl, rfl⟩ wt_619 rfl d_Mo_giveBack_55 ?_
        refine lv_iload hx hb d_Mo_giveBack_58 (lv_at hl 0 rfl) ?_
        obtain ⟨hin, h⟩ := mm_ix_some h
        refine mm_iald (h := 26) (i := 0) hX hP mm_ls26 (fun _ => rfl) rfl hin d_Mo_giveBack_60 ?_
        refine lv_iconst (v := 3) hx hb d_Mo_giveBack_61 (by decide) ?_
        refine lv_icmp_eq (tgt := 69) hx hb d_Mo_giveBack_62 rfl (fun hc => ?_) (fun hc => ?_)
        · have h := mm_pos hc h
          exact w_Mo_giveBack_b69 hX h hP hF (lv_sub (l' := [(0, .ref (L.2.1 20 r0)), (1, .int x1), (2, .int x2), (4, .int t0)]) hl [1, 2, 3, 0] rfl) hv_r0 hv_r0
        · have h := mm_neg hc h
          exact w_Mo_giveBack_b65 hX h hP hF (lv_sub (l' := [(0, .ref (L.2.1 20 r0)), (1, .int x1), (2, .int x2), (4, .int t0)]) hl [1, 2, 3, 0] rfl) hv_r0 hv_r0
def f_Mo_giveBack_b14 (n : Nat) (g : mm_M) (r0 : Nat) (x1 : Int32) (x2 : Int32) (t0 : Int32) : Option (Nat × Int32 × mm_M) :=
  (if t0 = 0 then mm_bd (f_Mo_at n g x1 x2) 0 (fun z1 g2 => f_Mo_giveBack_b28 n g2 r0 x1 x2 t0 z1) else f_Mo_giveBack_b28 n g r0 x1 x2 t0 0)
set_option maxRecDepth 100000 in
set_option maxHeartbeats 4000000 in
theorem w_Mo_giveBack_b14 {p : Program} {l : Launch} {e : Env} {R : Room} {s : State} {m : MethodId} {args : Array Value} {below : List Frame} {meth : Method} {c : Code} {L : mm_L} {eo : Nat} {v : Int32} {g' : mm_M} {g : mm_M} {r0 : Nat} {x1 : Int32} {x2 : Int32} {t0 : Int32} {H : Heap} {locs : List Loc} {ls : Array Slot} (hX : mm_X L prog_9_method_22_code 5 "LoanArrowsModel" (some .int) 4 100 p l R s m meth c) (h : f_Mo_giveBack_b14 L.1 g r0 x1 x2 t0 = some (eo, v, g')) (hP : mm_P L g H) (hF : ∀ q ∈ locs, mm_F L q.base) (hl : lv_has ls 5 [(0, .ref (L.2.1 20 r0)), (1, .int x1), (2, .int x2)]) (hv_r0 : mm_lv L.1 20 r0) : W p l e R s m args below meth c H locs 0 0 (mm_Q below L s (mm_oi eo v) g') (F0 m 14 ls [.int t0]) := by
  have hX0 := hX
  obtain ⟨hx, hb, hml, hown, hr, hlk, hex, hRf, hRl, hRc, hRs, hJ, hK, hst, h00⟩ := hX0
  unfold f_Mo_giveBack_b14 at h
  refine lv_istore_n hx hb d_Mo_giveBack_14 rfl hl (Nat.lt_of_lt_of_le (Nat.lt_succ_self _) (Nat.le_of_ble_eq_true rfl)) rfl (fun ls hl => ?_)
  have hl : lv_has ls 5 [(3, .int t0), (0, .ref (L.2.1 20 r0)), (1, .int x1), (2, .int x2)] := hl
  refine lv_iload_n hx hb d_Mo_giveBack_15 rfl (lv_at hl 0 rfl) ?_
  refine lv_if_eq (tgt := 23) hx hb d_Mo_giveBack_16 rfl (fun hc => ?_) (fun hc => ?_)
  · have h := mm_pos hc h
    refine lv_iload_n hx hb d_Mo_giveBack_23 rfl (lv_at hl 2 rfl) ?_
    refine lv_iload_n hx hb d_Mo_giveBack_24 rfl (lv_at hl 3 rfl) ?_
    rcases mm_bd_some h with ⟨z1, g2, hf3, h⟩ | ⟨xe, z1, g2, hf3, h⟩
    · refine mm_goR (v := (some (.int z1))) (mm_goS (As := [.int x1, .int x2]) (rest := []) hX (c_Mo_at hf3) yw_Mo_at wt_717 wt_718 wt_8 hP hF rfl hl.1 (Nat.le_of_ble_eq_true rfl) (by decide) (by decide) hRc hRs d_Mo_giveBack_25) hF (fun H locs hP hF _ => ?_)
      exact w_Mo_giveBack_b28 hX h hP hF (lv_sub (l' := [(0, .ref (L.2.1 20 r0)), (1, .int x1), (2, .int x2), (3, .int t0)]) hl [1, 2, 3, 0] rfl) hv_r0
    · cases h
      exact mm_goT (x := xe + 1) (mm_goS (As := [.int x1, .int x2]) (rest := []) hX (c_Mo_at hf3) yw_Mo_at wt_717 wt_718 wt_8 hP hF rfl hl.1 (Nat.le_of_ble_eq_true rfl) (by decide) (by decide) hRc hRs d_Mo_giveBack_25) hF hex hlk
  · have h := mm_neg hc h
    refine lv_iconst (v := 0) hx hb d_Mo_giveBack_19 (by decide) ?_
    refine lv_goto (tgt := 28) hx hb d_Mo_giveBack_20 rfl ?_
    exact w_Mo_giveBack_b28 hX h hP hF (lv_sub (l' := [(0, .ref (L.2.1 20 r0)), (1, .int x1), (2, .int x2), (3, .int t0)]) hl [1, 2, 3, 0] rfl) hv_r0
def f_Mo_giveBack (n : Nat) (g : mm_M) (r0 : Nat) (x1 : Int32) (x2 : Int32) : Option (Nat × Int32 × mm_M) :=
  mm_bd (f_Mo_isPair n g r0 x1 x2) 0 (fun z1 g2 => (if z1 = 0 then f_Mo_giveBack_b14 n g2 r0 x1 x2 1 else f_Mo_giveBack_b14 n g2 r0 x1 x2 0))
set_option maxRecDepth 100000 in
set_option maxHeartbeats 4000000 in
theorem w_Mo_giveBack {p : Program} {l : Launch} {e : Env} {R : Room} {s : State} {m : MethodId} {args : Array Value} {below : List Frame} {meth : Method} {c : Code} {L : mm_L} {eo : Nat} {v : Int32} {g' : mm_M} {g : mm_M} {r0 : Nat} {x1 : Int32} {x2 : Int32} {H : Heap} {locs : List Loc} {ls : Array Slot} (hX : mm_X L prog_9_method_22_code 5 "LoanArrowsModel" (some .int) 4 100 p l R s m meth c) (h : f_Mo_giveBack L.1 g r0 x1 x2 = some (eo, v, g')) (hP : mm_P L g H) (hF : ∀ q ∈ locs, mm_F L q.base) (hl : lv_has ls 5 [(0, .ref (L.2.1 20 r0)), (1, .int x1), (2, .int x2)]) (hv_r0 : mm_lv L.1 20 r0) : W p l e R s m args below meth c H locs 0 0 (mm_Q below L s (mm_oi eo v) g') (F0 m 0 ls []) := by
  have hX0 := hX
  obtain ⟨hx, hb, hml, hown, hr, hlk, hex, hRf, hRl, hRc, hRs, hJ, hK, hst, h00⟩ := hX0
  unfold f_Mo_giveBack at h
  refine lv_aload_n hx hb d_Mo_giveBack_0 rfl (lv_at hl 0 rfl) ?_
  refine lv_iload_n hx hb d_Mo_giveBack_1 rfl (lv_at hl 1 rfl) ?_
  refine lv_iload_n hx hb d_Mo_giveBack_2 rfl (lv_at hl 2 rfl) ?_
  rcases mm_bd_some h with ⟨z1, g2, hf3, h⟩ | ⟨xe, z1, g2, hf3, h⟩
  · refine mm_goR (v := (some (.int z1))) (mm_goV (As := [.int x1, .int x2]) (rest := []) hX (c_Mo_isPair hv_r0 hf3) yw_Mo_isPair wt_702 wt_704 ws_0_11 hP hF (mm_recv (h := 20) (i := r0) hX hP hv_r0 rfl rfl) rfl hl.1 (Nat.le_of_ble_eq_true rfl) (by decide) (by decide) hRc hRs d_Mo_giveBack_3) hF (fun H locs hP hF _ => ?_)
    refine lv_if_ne (tgt := 13) hx hb d_Mo_giveBack_6 rfl (fun hc => ?_) (fun hc => ?_)
    · have h := mm_neg hc h
      refine lv_iconst (v := 0) hx hb d_Mo_giveBack_13 (by decide) ?_
      exact w_Mo_giveBack_b14 hX h hP hF (lv_sub (l' := [(0, .ref (L.2.1 20 r0)), (1, .int x1), (2, .int x2)]) hl [0, 1, 2] rfl) hv_r0
    · have h := mm_pos hc h
      refine lv_iconst (v := 1) hx hb d_Mo_giveBack_9 (by decide) ?_
      refine lv_goto (tgt := 14) hx hb d_Mo_giveBack_10 rfl ?_
      exact w_Mo_giveBack_b14 hX h hP hF (lv_sub (l' := [(0, .ref (L.2.1 20 r0)), (1, .int x1), (2, .int x2)]) hl [0, 1, 2] rfl) hv_r0
  · cases h
    exact mm_goT (x := xe + 1) (mm_goV (As := [.int x1, .int x2]) (rest := []) hX (c_Mo_isPair hv_r0 hf3) yw_Mo_isPair wt_702 wt_704 ws_0_11 hP hF (mm_recv (h := 20) (i := r0) hX hP hv_r0 rfl rfl) rfl hl.1 (Nat.le_of_ble_eq_true rfl) (by decide) (by decide) hRc hRs d_Mo_giveBack_3) hF hex hlk
set_option maxRecDepth 100000 in
set_option maxHeartbeats 4000000 in
theorem c_Mo_giveBack {l : Launch} {L : mm_L} {g g' : mm_M} {eo : Nat} {v : Int32} {r0 : Nat} {x1 : Int32} {x2 : Int32} (hv_r0 : mm_lv L.1 20 r0) (h : f_Mo_giveBack L.1 g r0 x1 x2 = some (eo, v, g')) : mm_C l y_Mo_giveBack prog_9_method_22_code 5 (some .int) 4 100 L [.ref (L.2.1 20 r0), .int x1, .int x2] g (mm_oi eo v) g' := by
  intro p e R s m below meth c hX hP
  refine mm_enter (Nat.le_of_ble_eq_true rfl) fun ls hl => ?_
  exact w_Mo_giveBack hX h hP (fun q hq => by cases hq) (lv_sub (l' := [(0, .ref (L.2.1 20 r0)), (1, .int x1), (2, .int x2)]) hl [0, 1, 2] rfl) hv_r0
def f_Mo_van_b86 (n : Nat) (g : mm_M) (r0 : Nat) (x1 : Int32) (u0 : Nat) (t1 : Int32) (t2 : Int32) : Option (Nat × Int32 × mm_M) :=
  mm_ix t1 36 (mm_let (mm_st g 26 u0 t1.toNatClampNeg t2) (fun g1 => mm_ix x1 3 (some (0, (g1 30 0 x1.toNatClampNeg), g1))))
set_option maxRecDepth 100000 in
set_option maxHeartbeats 4000000 in
theorem w_Mo_van_b86 {p : Program} {l : Launch} {e : Env} {R : Room} {s : State} {m : MethodId} {args : Array Value} {below : List Frame} {meth : Method} {c : Code} {L : mm_L} {eo : Nat} {v : Int32} {g' : mm_M} {g : mm_M} {r0 : Nat} {x1 : Int32} {u0 : Nat} {t1 : Int32} {t2 : Int32} {H : Heap} {locs : List Loc} {ls : Array Slot} (hX : mm_X L prog_9_method_23_code 3 "LoanArrowsModel" (some .int) 1 23 p l R s m meth c) (h : f_Mo_van_b86 L.1 g r0 x1 u0 t1 t2 = some (eo, v, g')) (hP : mm_P L g H) (hF : ∀ q ∈ locs, mm_F L q.base) (hl : lv_has ls 3 [(0, .ref (L.2.1 20 r0)), (1, .int x1)]) (hv_r0 : mm_lv L.1 20 r0) (hv_u0 : mm_lv L.1 26 u0) : W p l e R s m args below meth c H locs 0 0 (mm_Q below L s (mm_oi eo v) g') (F0 m 86 ls [.int t2, .int t1, .ref (L.2.1 26 u0)]) := by
  have hX0 := hX
  obtain ⟨hx, hb, hml, hown, hr, hlk, hex, hRf, hRl, hRc, hRs, hJ, hK, hst, h00⟩ := hX0
  unfold f_Mo_van_b86 at h
  obtain ⟨hin, h⟩ := mm_ix_some h
  refine mm_iast (h := 26) (i := u0) hX hP hF hv_u0 (fun _ => rfl) rfl hin d_Mo_van_86 (fun H locs hP hF => ?_)
  obtain ⟨g1, e2, h⟩ := mm_let_ex h
  have hP : mm_P L g1 H := by rw [e2]; exact hP
  refine lv_aload_n hx hb d_Mo_van_87 rfl (lv_at hl 0 rfl) ?_
  refine mm_get (h := 20) (i := r0) 11 hX hP hv_r0 rfl rfl uin_20 (by decide) ⟨rfl, rfl, rfl⟩ wt_623 rfl d_Mo_van_88 ?_
  refine lv_iload_n hx hb d_Mo_van_91 rfl (lv_at hl 1 rfl) ?_
  obtain ⟨hin, h⟩ := mm_ix_some h
  refine mm_iald (h := 30) (i := 0) hX hP mm_ls30 (fun _ => rfl) rfl hin d_Mo_van_92 ?_
  cases h
  exact mm_iret hx hb hr hlk hP hF d_Mo_van_93
def f_Mo_van_b34 (n : Nat) (g : mm_M) (r0 : Nat) (x1 : Int32) (u0 : Nat) (t1 : Int32) (t2 : Int32) : Option (Nat × Int32 × mm_M) :=
  mm_bd (f_Mo_refused n g u0 t1 t2 0) 0 (fun z1 g2 => (if z1 = 0 then mm_ix x1 3 (mm_let (mm_st g2 31 0 x1.toNatClampNeg (vp_nar .boolean 0)) (fun g4 => mm_ix x1 3 (mm_bd (f_Mo_at n g4 (g4 30 0 x1.toNatClampNeg) x1) 0 (fun z6 g7 => mm_ix z6 36 ((if (g7 26 0 z6.toNatClampNeg) = 1 then f_Mo_van_b86 n g7 r0 x1 0 z6 2 else mm_ix z6 36 (f_Mo_van_b86 n g7 r0 x1 0 z6 (g7 26 0 z6.toNatClampNeg)))))))) else some (0, 0, g2)))
set_option maxRecDepth 100000 in
set_option maxHeartbeats 4000000 in
theorem w_Mo_van_b34 {p : Program} {l : Launch} {e : Env} {R : Room} {s : State} {m : MethodId} {args : Array Value} {below : List Frame} {meth : Method} {c : Code} {L : mm_L} {eo : Nat} {v : Int32} {g' : mm_M} {g : mm_M} {r0 : Nat} {x1 : Int32} {u0 : Nat} {t1 : Int32} {t2 : Int32} {H : Heap} {locs : List Loc} {ls : Array Slot} (hX : mm_X L prog_9_method_23_code 3 "LoanArrowsModel" (some .int) 1 23 p l R s m meth c) (h : f_Mo_van_b34 L.1 g r0 x1 u0 t1 t2 = some (eo, v, g')) (hP : mm_P L g H) (hF : ∀ q ∈ locs, mm_F L q.base) (hl : lv_has ls 3 [(0, .ref (L.2.1 20 r0)), (1, .int x1)]) (hv_r0 : mm_lv L.1 20 r0) (hv_u0 : mm_lv L.1 20 u0) : W p l e R s m args below meth c H locs 0 0 (mm_Q below L s (mm_oi eo v) g') (F0 m 34 ls [.int t2, .int t1, .ref (L.2.1 20 u0)]) := by
  have hX0 := hX
  obtain ⟨hx, hb, hml, hown, hr, hlk, hex, hRf, hRl, hRc, hRs, hJ, hK, hst, h00⟩ := hX0
  unfold f_Mo_van_b34 at h
  refine lv_iconst (v := 0) hx hb d_Mo_van_34 (by decide) ?_
  rcases mm_bd_some h with ⟨z1, g2, hf3, h⟩ | ⟨xe, z1, g2, hf3, h⟩
  · refine mm_goR (v := (some (.int z1))) (mm_goV (As := [.int t1, .int t2, .int 0]) (rest := []) hX (c_Mo_refused hv_u0 hf3) yw_Mo_refused wt_713 wt_715 ws_0_13 hP hF (mm_recv (h := 20) (i := u0) hX hP hv_u0 rfl rfl) rfl hl.1 (Nat.le_of_ble_eq_true rfl) (by decide) (by decide) hRc hRs d_Mo_van_35) hF (fun H locs hP hF _ => ?_)
    refine lv_if_eq (tgt := 43) hx hb d_Mo_van_38 rfl (fun hc => ?_) (fun hc => ?_)
    · have h := mm_pos hc h
      refine lv_aload_n hx hb d_Mo_van_43 rfl (lv_at hl 0 rfl) ?_
      refine mm_get (h := 20) (i := r0) 12 hX hP hv_r0 rfl rfl uin_20 (by decide) ⟨rfl, rfl, rfl⟩ wt_624 rfl d_Mo_van_44 ?_
      refine lv_iload_n hx hb d_Mo_van_47 rfl (lv_at hl 1 rfl) ?_
      refine lv_iconst (v := 0) hx hb d_Mo_van_48 (by decide) ?_
      obtain ⟨hin, h⟩ := mm_ix_some h
      refine mm_zast (h := 31) (i := 0) hX hP hF mm_ls31 (fun _ => rfl) rfl hin d_Mo_van_49 (fun H locs hP hF => ?_)
      obtain ⟨g4, e5, h⟩ := mm_let_ex h
      have hP : mm_P L g4 H := by rw [e5]; exact hP
      refine lv_aload_n hx hb d_Mo_van_50 rfl (lv_at hl 0 rfl) ?_
      refine mm_get (h := 20) (i := r0) 11 hX hP hv_r0 rfl rfl uin_20 (by decide) ⟨rfl, rfl, rfl⟩ wt_623 rfl d_Mo_van_51 ?_
      refine lv_iload_n hx hb d_Mo_van_54 rfl (lv_at hl 1 rfl) ?_
      obtain ⟨hin, h⟩ := mm_ix_some h
      refine mm_iald (h := 30) (i := 0) hX hP mm_ls30 (fun _ => rfl) rfl hin d_Mo_van_55 ?_
      refine lv_iload_n hx hb d_Mo_van_56 rfl (lv_at hl 1 rfl) ?_
      rcases mm_bd_some h with ⟨z6, g7, hf8, h⟩ | ⟨xe, z6, g7, hf8, h⟩
      · refine mm_goR (v := (some (.int z6))) (mm_goS (As := [.int (g4 30 0 x1.toNatClampNeg), .int x1]) (rest := []) hX (c_Mo_at hf8) yw_Mo_at wt_717 wt_718 wt_8 hP hF rfl hl.1 (Nat.le_of_ble_eq_true rfl) (by decide) (by decide) hRc hRs d_Mo_van_57) hF (fun H locs hP hF _ => ?_)
        refine lv_istore_n hx hb d_Mo_van_60 rfl hl (Nat.lt_of_lt_of_le (Nat.lt_succ_self _) (Nat.le_of_ble_eq_true rfl)) rfl (fun ls hl => ?_)
        have hl : lv_has ls 3 [(2, .int z6), (0, .ref (L.2.1 20 r0)), (1, .int x1)] := hl
        refine lv_aload_n hx hb d_Mo_van_61 rfl (lv_at hl 1 rfl) ?_
        refine mm_get (h := 20) (i := r0) 7 hX hP hv_r0 rfl rfl uin_20 (by decide) ⟨rfl, rfl, rfl⟩ wt_619 rfl d_Mo_van_62 ?_
        refine lv_iload_n hx hb d_Mo_van_65 rfl (lv_at hl 0 rfl) ?_
        refine lv_aload_n hx hb d_Mo_van_66 rfl (lv_at hl 1 rfl) ?_
        refine mm_get (h := 20) (i := r0) 7 hX hP hv_r0 rfl rfl uin_20 (by decide) ⟨rfl, rfl, rfl⟩ wt_619 rfl d_Mo_van_67 ?_
        refine lv_iload_n hx hb d_Mo_van_70 rfl (lv_at hl 0 rfl) ?_
        obtain ⟨hin, h⟩ := mm_ix_some h
        refine mm_iald (h := 26) (i := 0) hX hP mm_ls26 (fun _ => rfl) rfl hin d_Mo_van_71 ?_
        refine lv_iconst (v := 1) hx hb d_Mo_van_72 (by decide) ?_
        refine lv_icmp_ne (tgt := 80) hx hb d_Mo_van_73 rfl (fun hc => ?_) (fun hc => ?_)
        · have h := mm_neg hc h
          refine lv_aload_n hx hb d_Mo_van_80 rfl (lv_at hl 1 rfl) ?_
          refine mm_get (h := 20) (i := r0) 7 hX hP hv_r0 rfl rfl uin_20 (by decide) ⟨rfl, rfl, rfl⟩ wt_619 rfl d_Mo_van_81 ?_
          refine lv_iload_n hx hb d_Mo_van_84 rfl (lv_at hl 0 rfl) ?_
          obtain ⟨hin, h⟩ := mm_ix_some h
          refine mm_iald (h := 26) (i := 0) hX hP mm_ls26 (fun _ => rfl) rfl hin d_Mo_van_85 ?_
          exact w_Mo_van_b86 hX h hP hF (lv_sub (l' := [(0, .ref (L.2.1 20 r0)), (1, .int x1)]) hl [1, 2] rfl) hv_r0 mm_ls26
        · have h := mm_pos hc h
          refine lv_iconst (v := 2) hx hb d_Mo_van_76 (by decide) ?_
          refine lv_goto (tgt := 86) hx hb d_Mo_van_77 rfl ?_
          exact w_Mo_van_b86 hX h hP hF (lv_sub (l' := [(0, .ref (L.2.1 20 r0)), (1, .int x1)]) hl [1, 2] rfl) hv_r0 mm_ls26
      · cases h
        exact mm_goT (x := xe + 1) (mm_goS (As := [.int (g4 30 0 x1.toNatClampNeg), .int x1]) (rest := []) hX (c_Mo_at hf8) yw_Mo_at wt_717 wt_718 wt_8 hP hF rfl hl.1 (Nat.le_of_ble_eq_true rfl) (by decide) (by decide) hRc hRs d_Mo_van_57) hF hex hlk
    · have h := mm_neg hc h
      refine lv_iconst (v := 0) hx hb d_Mo_van_41 (by decide) ?_
      cases h
      exact mm_iret hx hb hr hlk hP hF d_Mo_van_42
  · cases h
    exact mm_goT (x := xe + 1) (mm_goV (As := [.int t1, .int t2, .int 0]) (rest := []) hX (c_Mo_refused hv_u0 hf3) yw_Mo_refused wt_713 wt_715 ws_0_13 hP hF (mm_recv (h := 20) (i := u0) hX hP hv_u0 rfl rfl) rfl hl.1 (Nat.le_of_ble_eq_true rfl) (by decide) (by decide) hRc hRs d_Mo_van_35) hF hex hlk
def f_Mo_van_b33 (n : Nat) (g : mm_M) (r0 : Nat) (x1 : Int32) (u0 : Nat) (t1 : Int32) : Option (Nat × Int32 × mm_M) :=
  f_Mo_van_b34 n g r0 x1 u0 t1 0
set_option maxRecDepth 100000 in
set_option maxHeartbeats 4000000 in
theorem w_Mo_van_b33 {p : Program} {l : Launch} {e : Env} {R : Room} {s : State} {m : MethodId} {args : Array Value} {below : List Frame} {meth : Method} {c : Code} {L : mm_L} {eo : Nat} {v : Int32} {g' : mm_M} {g : mm_M} {r0 : Nat} {x1 : Int32} {u0 : Nat} {t1 : Int32} {H : Heap} {locs : List Loc} {ls : Array Slot} (hX : mm_X L prog_9_method_23_code 3 "LoanArrowsModel" (some .int) 1 23 p l R s m meth c) (h : f_Mo_van_b33 L.1 g r0 x1 u0 t1 = some (eo, v, g')) (hP : mm_P L g H) (hF : ∀ q ∈ locs, mm_F L q.base) (hl : lv_has ls 3 [(0, .ref (L.2.1 20 r0)), (1, .int x1)]) (hv_r0 : mm_lv L.1 20 r0) (hv_u0 : mm_lv L.1 20 u0) : W p l e R s m args below meth c H locs 0 0 (mm_Q below L s (mm_oi eo v) g') (F0 m 33 ls [.int t1, .ref (L.2.1 20 u0)]) := by
  have hX0 := hX
  obtain ⟨hx, hb, hml, hown, hr, hlk, hex, hRf, hRl, hRc, hRs, hJ, hK, hst, h00⟩ := hX0
  unfold f_Mo_van_b33 at h
  refine lv_iconst (v := 0) hx hb d_Mo_van_33 (by decide) ?_
  exact w_Mo_van_b34 hX h hP hF (lv_sub (l' := [(0, .ref (L.2.1 20 r0)), (1, .int x1)]) hl [0, 1] rfl) hv_r0 hv_u0
def f_Mo_van_b13 (n : Nat) (g : mm_M) (r0 : Nat) (x1 : Int32) (u0 : Nat) (t1 : Int32) : Option (Nat × Int32 × mm_M) :=
  mm_bd (f_Mo_isCopy n g x1) 0 (fun z1 g2 => (if z1 = 0 then f_Mo_van_b33 n g2 r0 x1 u0 t1 else mm_ix x1 3 ((if (g2 31 0 x1.toNatClampNeg) = 0 then f_Mo_van_b34 n g2 r0 x1 u0 t1 1 else f_Mo_van_b33 n g2 r0 x1 u0 t1))))
set_option maxRecDepth 100000 in
set_option maxHeartbeats 4000000 in
theorem w_Mo_van_b13 {p : Program} {l : Launch} {e : Env} {R : Room} {s : State} {m : MethodId} {args : Array Value} {below : List Frame} {meth : Method} {c : Code} {L : mm_L} {eo : Nat} {v : Int32} {g' : mm_M} {g : mm_M} {r0 : Nat} {x1 : Int32} {u0 : Nat} {t1 : Int32} {H : Heap} {locs : List Loc} {ls : Array Slot} (hX : mm_X L prog_9_method_23_code 3 "LoanArrowsModel" (some .int) 1 23 p l R s m meth c) (h : f_Mo_van_b13 L.1 g r0 x1 u0 t1 = some (eo, v, g')) (hP : mm_P L g H) (hF : ∀ q ∈ locs, mm_F L q.base) (hl : lv_has ls 3 [(0, .ref (L.2.1 20 r0)), (1, .int x1)]) (hv_r0 : mm_lv L.1 20 r0) (hv_u0 : mm_lv L.1 20 u0) : W p l e R s m args below meth c H locs 0 0 (mm_Q below L s (mm_oi eo v) g') (F0 m 13 ls [.int t1, .ref (L.2.1 20 u0)]) := by
  have hX0 := hX
  obtain ⟨hx, hb, hml, hown, hr, hlk, hex, hRf, hRl, hRc, hRs, hJ, hK, hst, h00⟩ := hX0
  unfold f_Mo_van_b13 at h
  refine lv_iload_n hx hb d_Mo_van_13 rfl (lv_at hl 1 rfl) ?_
  rcases mm_bd_some h with ⟨z1, g2, hf3, h⟩ | ⟨xe, z1, g2, hf3, h⟩
  · refine mm_goR (v := (some (.int z1))) (mm_goS (As := [.int x1]) (rest := [.int t1, .ref (L.2.1 20 u0)]) hX (c_Mo_isCopy hf3) yw_Mo_isCopy wt_710 wt_711 wt_8 hP hF rfl hl.1 (Nat.le_of_ble_eq_true rfl) (by decide) (by decide) hRc hRs d_Mo_van_14) hF (fun H locs hP hF _ => ?_)
    refine lv_if_eq (tgt := 33) hx hb d_Mo_van_17 rfl (fun hc => ?_) (fun hc => ?_)
    · have h := mm_pos hc h
      exact w_Mo_van_b33 hX h hP hF (lv_sub (l' := [(0, .ref (L.2.1 20 r0)), (1, .int x1)]) hl [0, 1] rfl) hv_r0 hv_u0
    · have h := mm_neg hc h
      refine lv_aload_n hx hb d_Mo_van_20 rfl (lv_at hl 0 rfl) ?_
      refine mm_get (h := 20) (i := r0) 12 hX hP hv_r0 rfl rfl uin_20 (by decide) ⟨rfl, rfl, rfl⟩ wt_624 rfl d_Mo_van_21 ?_
      refine lv_iload_n hx hb d_Mo_van_24 rfl (lv_at hl 1 rfl) ?_
      obtain ⟨hin, h⟩ := mm_ix_some h
      refine mm_zald (h := 31) (i := 0) hX hP mm_ls31 (fun _ => rfl) rfl hin d_Mo_van_25 ?_
      refine lv_if_ne (tgt := 33) hx hb d_Mo_van_26 rfl (fun hc => ?_) (fun hc => ?_)
      · have h := mm_neg hc h
        exact w_Mo_van_b33 hX h hP hF (lv_sub (l' := [(0, .ref (L.2.1 20 r0)), (1, .int x1)]) hl [0, 1] rfl) hv_r0 hv_u0
      · have h := mm_pos hc h
        refine lv_iconst (v := 1) hx hb d_Mo_van_29 (by decide) ?_
        refine lv_goto (tgt := 34) hx hb d_Mo_van_30 rfl ?_
        exact w_Mo_van_b34 hX h hP hF (lv_sub (l' := [(0, .ref (L.2.1 20 r0)), (1, .int x1)]) hl [0, 1] rfl) hv_r0 hv_u0
  · cases h
    exact mm_goT (x := xe + 1) (mm_goS (As := [.int x1]) (rest := [.int t1, .ref (L.2.1 20 u0)]) hX (c_Mo_isCopy hf3) yw_Mo_isCopy wt_710 wt_711 wt_8 hP hF rfl hl.1 (Nat.le_of_ble_eq_true rfl) (by decide) (by decide) hRc hRs d_Mo_van_14) hF hex hlk
def f_Mo_van (n : Nat) (g : mm_M) (r0 : Nat) (x1 : Int32) : Option (Nat × Int32 × mm_M) :=
  mm_bd (f_Mo_isCopy n g x1) 0 (fun z1 g2 => (if z1 = 0 then f_Mo_van_b13 n g2 r0 x1 r0 1 else f_Mo_van_b13 n g2 r0 x1 r0 0))
set_option maxRecDepth 100000 in
set_option maxHeartbeats 4000000 in
theorem w_Mo_van {p : Program} {l : Launch} {e : Env} {R : Room} {s : State} {m : MethodId} {args : Array Value} {below : List Frame} {meth : Method} {c : Code} {L : mm_L} {eo : Nat} {v : Int32} {g' : mm_M} {g : mm_M} {r0 : Nat} {x1 : Int32} {H : Heap} {locs : List Loc} {ls : Array Slot} (hX : mm_X L prog_9_method_23_code 3 "LoanArrowsModel" (some .int) 1 23 p l R s m meth c) (h : f_Mo_van L.1 g r0 x1 = some (eo, v, g')) (hP : mm_P L g H) (hF : ∀ q ∈ locs, mm_F L q.base) (hl : lv_has ls 3 [(0, .ref (L.2.1 20 r0)), (1, .int x1)]) (hv_r0 : mm_lv L.1 20 r0) : W p l e R s m args below meth c H locs 0 0 (mm_Q below L s (mm_oi eo v) g') (F0 m 0 ls []) := by
  have hX0 := hX
  obtain ⟨hx, hb, hml, hown, hr, hlk, hex, hRf, hRl, hRc, hRs, hJ, hK, hst, h00⟩ := hX0
  unfold f_Mo_van at h
  refine lv_aload_n hx hb d_Mo_van_0 rfl (lv_at hl 0 rfl) ?_
  refine lv_iload_n hx hb d_Mo_van_1 rfl (lv_at hl 1 rfl) ?_
  rcases mm_bd_some h with ⟨z1, g2, hf3, h⟩ | ⟨xe, z1, g2, hf3, h⟩
  · refine mm_goR (v := (some (.int z1))) (mm_goS (As := [.int x1]) (rest := [.ref (L.2.1 20 r0)]) hX (c_Mo_isCopy hf3) yw_Mo_isCopy wt_710 wt_711 wt_8 hP hF rfl hl.1 (Nat.le_of_ble_eq_true rfl) (by decide) (by decide) hRc hRs d_Mo_van_2) hF (fun H locs hP hF _ => ?_)
    refine lv_if_ne (tgt := 12) hx hb d_Mo_van_5 rfl (fun hc => ?_) (fun hc => ?_)
    · have h := mm_neg hc h
      refine lv_iconst (v := 0) hx hb d_Mo_van_12 (by decide) ?_
      exact w_Mo_van_b13 hX h hP hF (lv_sub (l' := [(0, .ref (L.2.1 20 r0)), (1, .int x1)]) hl [0, 1] rfl) hv_r0 hv_r0
    · have h := mm_pos hc h
      refine lv_iconst (v := 1) hx hb d_Mo_van_8 (by decide) ?_
      refine lv_goto (tgt := 13) hx hb d_Mo_van_9 rfl ?_
      exact w_Mo_van_b13 hX h hP hF (lv_sub (l' := [(0, .ref (L.2.1 20 r0)), (1, .int x1)]) hl [0, 1] rfl) hv_r0 hv_r0
  · cases h
    exact mm_goT (x := xe + 1) (mm_goS (As := [.int x1]) (rest := [.ref (L.2.1 20 r0)]) hX (c_Mo_isCopy hf3) yw_Mo_isCopy wt_710 wt_711 wt_8 hP hF rfl hl.1 (Nat.le_of_ble_eq_true rfl) (by decide) (by decide) hRc hRs d_Mo_van_2) hF hex hlk
set_option maxRecDepth 100000 in
set_option maxHeartbeats 4000000 in
theorem c_Mo_van {l : Launch} {L : mm_L} {g g' : mm_M} {eo : Nat} {v : Int32} {r0 : Nat} {x1 : Int32} (hv_r0 : mm_lv L.1 20 r0) (h : f_Mo_van L.1 g r0 x1 = some (eo, v, g')) : mm_C l y_Mo_van prog_9_method_23_code 3 (some .int) 1 23 L [.ref (L.2.1 20 r0), .int x1] g (mm_oi eo v) g' := by
  intro p e R s m below meth c hX hP
  refine mm_enter (Nat.le_of_ble_eq_true rfl) fun ls hl => ?_
  exact w_Mo_van hX h hP (fun q hq => by cases hq) (lv_sub (l' := [(0, .ref (L.2.1 20 r0)), (1, .int x1)]) hl [0, 1] rfl) hv_r0
def f_Mo_sendFirsts_l4 (n : Nat) : Nat → mm_M → Nat → Int32 → Int32 → Int32 → Option (Nat × Int32 × mm_M)
  | 0, _, _, _, _, _ => none
  | k + 1, g, r0, x1, x2, x3 => (if (g 20 r0 1) ≤ x3 then some (0, x2, g) else (if x3 = x1 then f_Mo_sendFirsts_l4 n k g r0 x1 x2 (x3 + 1) else mm_ix x1 12 ((if (g 21 0 x1.toNatClampNeg) = x3 then mm_bd (f_Mo_direction n g r0 x1 x3) 0 (fun z1 g2 => mm_ix z1 24 (mm_ix z1 24 ((if (g2 35 0 z1.toNatClampNeg) ≤ (g2 34 0 z1.toNatClampNeg) then f_Mo_sendFirsts_l4 n k g2 r0 x1 x2 (x3 + 1) else mm_bd (f_Mo_postFirst n g2 r0 x1 x3) 0 (fun z4 g5 => f_Mo_sendFirsts_l4 n k g5 r0 x1 (x2 + 1) (x3 + 1)))))) else mm_ix x3 12 ((if (g 21 0 x3.toNatClampNeg) = x1 then mm_bd (f_Mo_direction n g r0 x1 x3) 0 (fun z7 g8 => mm_ix z7 24 (mm_ix z7 24 ((if (g8 35 0 z7.toNatClampNeg) ≤ (g8 34 0 z7.toNatClampNeg) then f_Mo_sendFirsts_l4 n k g8 r0 x1 x2 (x3 + 1) else mm_bd (f_Mo_postFirst n g8 r0 x1 x3) 0 (fun z10 g11 => f_Mo_sendFirsts_l4 n k g11 r0 x1 (x2 + 1) (x3 + 1)))))) else f_Mo_sendFirsts_l4 n k g r0 x1 x2 (x3 + 1)))))))
set_option maxRecDepth 100000 in
set_option maxHeartbeats 4000000 in
theorem w_Mo_sendFirsts_l4 {p : Program} {l : Launch} {e : Env} {R : Room} {s : State} {m : MethodId} {args : Array Value} {below : List Frame} {meth : Method} {c : Code} {L : mm_L} {eo : Nat} {v : Int32} {g' : mm_M} (hX : mm_X L prog_9_method_24_code 5 "LoanArrowsModel" (some .int) 2 50 p l R s m meth c) : ∀ (k : Nat) (g : mm_M) (r0 : Nat) (x1 : Int32) (x2 : Int32) (x3 : Int32) (H : Heap) (locs : List Loc) (ls : Array Slot), f_Mo_sendFirsts_l4 L.1 k g r0 x1 x2 x3 = some (eo, v, g') → mm_P L g H → (∀ q ∈ locs, mm_F L q.base) → lv_has ls 5 [(0, .ref (L.2.1 20 r0)), (1, .int x1), (2, .int x2), (3, .int x3)] → mm_lv L.1 20 r0 → W p l e R s m args below meth c H locs 0 0 (mm_Q below L s (mm_oi eo v) g') (F0 m 4 ls []) := by
  have hX0 := hX
  obtain ⟨hx, hb, hml, hown, hr, hlk, hex, hRf, hRl, hRc, hRs, hJ, hK, hst, h00⟩ := hX0
  intro k
  induction k with
  | zero =>
    intro g r0 x1 x2 x3 H locs ls h hP hF hl hv_r0
    rw [f_Mo_sendFirsts_l4] at h
    cases h
  | succ k ih =>
    intro g r0 x1 x2 x3 H locs ls h hP hF hl hv_r0
    rw [f_Mo_sendFirsts_l4] at h
    refine lv_iload_n hx hb d_Mo_sendFirsts_4 rfl (lv_at hl 3 rfl) ?_
    refine lv_aload_n hx hb d_Mo_sendFirsts_5 rfl (lv_at hl 0 rfl) ?_
    refine mm_get (h := 20) (i := r0) 1 hX hP hv_r0 rfl rfl uin_20 (by decide) ⟨rfl, rfl, rfl⟩ wt_613 rfl d_Mo_sendFirsts_6 ?_
    refine lv_icmp_ge (tgt := 77) hx hb d_Mo_sendFirsts_9 rfl (fun hc => ?_) (fun hc => ?_)
    · have h := mm_pos hc h
      refine lv_iload_n hx hb d_Mo_sendFirsts_77 rfl (lv_at hl 2 rfl) ?_
      cases h
      exact mm_iret hx hb hr hlk hP hF d_Mo_sendFirsts_78
    · have h := mm_neg hc h
      refine lv_iload_n hx hb d_Mo_sendFirsts_12 rfl (lv_at hl 3 rfl) ?_
      refine lv_iload_n hx hb d_Mo_sendFirsts_13 rfl (lv_at hl 1 rfl) ?_
      refine lv_icmp_eq (tgt := 71) hx hb d_Mo_sendFirsts_14 rfl (fun hc => ?_) (fun hc => ?_)
      · have h := mm_pos hc h
        refine lv_iinc (k := 3) (v := (x3 + 1)) hx hb d_Mo_sendFirsts_71 hl rfl (congrArg (fun z => x3 + z) mm_i1) (Nat.lt_of_lt_of_le (Nat.lt_succ_self _) (Nat.le_of_ble_eq_true rfl)) rfl (fun ls hl => ?_)
        have hl : lv_has ls 5 [(3, .int (x3 + 1)), (0, .ref (L.2.1 20 r0)), (1, .int x1), (2, .int x2)] := hl
        refine lv_goto (tgt := 4) hx hb d_Mo_sendFirsts_74 rfl ?_
        exact ih _ _ _ _ _ _ _ _ h hP hF (lv_sub (l' := [(0, .ref (L.2.1 20 r0)), (1, .int x1), (2, .int x2), (3, .int (x3 + 1))]) hl [1, 2, 3, 0] rfl) hv_r0
      · have h := mm_neg hc h
        refine lv_aload_n hx hb d_Mo_sendFirsts_17 rfl (lv_at hl 0 rfl) ?_
        refine mm_get (h := 20) (i := r0) 2 hX hP hv_r0 rfl rfl uin_20 (by decide) ⟨rfl, rfl, rfl⟩ wt_614 rfl d_Mo_sendFirsts_18 ?_
        refine lv_iload_n hx hb d_Mo_sendFirsts_21 rfl (lv_at hl 1 rfl) ?_
        obtain ⟨hin, h⟩ := mm_ix_some h
        refine mm_iald (h := 21) (i := 0) hX hP mm_ls21 (fun _ => rfl) rfl hin d_Mo_sendFirsts_22 ?_
        refine lv_iload_n hx hb d_Mo_sendFirsts_23 rfl (lv_at hl 3 rfl) ?_
        refine lv_icmp_eq (tgt := 37) hx hb d_Mo_sendFirsts_24 rfl (fun hc => ?_) (fun hc => ?_)
        · have h := mm_pos hc h
          refine lv_aload_n hx hb d_Mo_sendFirsts_37 rfl (lv_at hl 0 rfl) ?_
          refine lv_iload_n hx hb d_Mo_sendFirsts_38 rfl (lv_at hl 1 rfl) ?_
          refine lv_iload_n hx hb d_Mo_sendFirsts_39 rfl (lv_at hl 3 rfl) ?_
          rcases mm_bd_some h with ⟨z1, g2, hf3, h⟩ | ⟨xe, z1, g2, hf3, h⟩
          · refine mm_goR (v := (some (.int z1))) (mm_goV (As := [.int x1, .int x3]) (rest := []) hX (c_Mo_direction hv_r0 hf3) yw_Mo_direction wt_744 wt_746 ws_1_3 hP hF (mm_recv (h := 20) (i := r0) hX hP hv_r0 rfl rfl) rfl hl.1 (Nat.le_of_ble_eq_true rfl) (by decide) (by decide) hRc hRs d_Mo_sendFirsts_40) hF (fun H locs hP hF _ => ?_)
            refine lv_istore hx hb d_Mo_sendFirsts_43 hl (Nat.lt_of_lt_of_le (Nat.lt_succ_self _) (Nat.le_of_ble_eq_true rfl)) rfl (fun ls hl => ?_)
            have hl : lv_has ls 5 [(4, .int z1), (0, .ref (L.2.1 20 r0)), (1, .int x1), (2, .int x2), (3, .int x3)] := hl
            refine lv_aload_n hx hb d_Mo_sendFirsts_45 rfl (lv_at hl 1 rfl) ?_
            refine mm_get (h := 20) (i := r0) 16 hX hP hv_r0 rfl rfl uin_20 (by decide) ⟨rfl, rfl, rfl⟩ wt_628 rfl d_Mo_sendFirsts_46 ?_
            refine lv_iload hx hb d_Mo_sendFirsts_49 (lv_at hl 0 rfl) ?_
            obtain ⟨hin, h⟩ := mm_ix_some h
            refine mm_iald (h := 35) (i := 0) hX hP mm_ls35 (fun _ => rfl) rfl hin d_Mo_sendFirsts_51 ?_
            refine lv_aload_n hx hb d_Mo_sendFirsts_52 rfl (lv_at hl 1 rfl) ?_
            refine mm_get (h := 20) (i := r0) 15 hX hP hv_r0 rfl rfl uin_20 (by decide) ⟨rfl, rfl, rfl⟩ wt_627 rfl d_Mo_sendFirsts_53 ?_
            refine lv_iload hx hb d_Mo_sendFirsts_56 (lv_at hl 0 rfl) ?_
            obtain ⟨hin, h⟩ := mm_ix_some h
            refine mm_iald (h := 34) (i := 0) hX hP mm_ls34 (fun _ => rfl) rfl hin d_Mo_sendFirsts_58 ?_
            refine lv_icmp_le (tgt := 71) hx hb d_Mo_sendFirsts_59 rfl (fun hc => ?_) (fun hc => ?_)
            · have h := mm_pos hc h
              refine lv_iinc (k := 4) (v := (x3 + 1)) hx hb d_Mo_sendFirsts_71 hl rfl (congrArg (fun z => x3 + z) mm_i1) (Nat.lt_of_lt_of_le (Nat.lt_succ_self _) (Nat.le_of_ble_eq_true rfl)) rfl (fun ls hl => ?_)
              have hl : lv_has ls 5 [(3, .int (x3 + 1)), (4, .int z1), (0, .ref (L.2.1 20 r0)), (1, .int x1), (2, .int x2)] := hl
              refine lv_goto (tgt := 4) hx hb d_Mo_sendFirsts_74 rfl ?_
              exact ih _ _ _ _ _ _ _ _ h hP hF (lv_sub (l' := [(0, .ref (L.2.1 20 r0)), (1, .int x1), (2, .int x2), (3, .int (x3 + 1))]) hl [2, 3, 4, 0] rfl) hv_r0
            · have h := mm_neg hc h
              refine lv_aload_n hx hb d_Mo_sendFirsts_62 rfl (lv_at hl 1 rfl) ?_
              refine lv_iload_n hx hb d_Mo_sendFirsts_63 rfl (lv_at hl 2 rfl) ?_
              refine lv_iload_n hx hb d_Mo_sendFirsts_64 rfl (lv_at hl 4 rfl) ?_
              rcases mm_bd_some h with ⟨z4, g5, hf6, h⟩ | ⟨xe, z4, g5, hf6, h⟩
              · refine mm_goR (v := none) (mm_goV (As := [.int x1, .int x3]) (rest := []) hX (c_Mo_postFirst hv_r0 hf6) yw_Mo_postFirst wt_748 wt_750 ws_1_4 hP hF (mm_recv (h := 20) (i := r0) hX hP hv_r0 rfl rfl) rfl hl.1 (Nat.le_of_ble_eq_true rfl) (by decide) (by decide) hRc hRs d_Mo_sendFirsts_65) hF (fun H locs hP hF _ => ?_)
                refine lv_iinc (k := 3) (v := (x2 + 1)) hx hb d_Mo_sendFirsts_68 hl rfl (congrArg (fun z => x2 + z) mm_i1) (Nat.lt_of_lt_of_le (Nat.lt_succ_self _) (Nat.le_of_ble_eq_true rfl)) rfl (fun ls hl => ?_)
                have hl : lv_has ls 5 [(2, .int (x2 + 1)), (4, .int z1), (0, .ref (L.2.1 20 r0)), (1, .int x1), (3, .int x3)] := hl
                refine lv_iinc (k := 4) (v := (x3 + 1)) hx hb d_Mo_sendFirsts_71 hl rfl (congrArg (fun z => x3 + z) mm_i1) (Nat.lt_of_lt_of_le (Nat.lt_succ_self _) (Nat.le_of_ble_eq_true rfl)) rfl (fun ls hl => ?_)
                have hl : lv_has ls 5 [(3, .int (x3 + 1)), (2, .int (x2 + 1)), (4, .int z1), (0, .ref (L.2.1 20 r0)), (1, .int x1)] := hl
                refine lv_goto (tgt := 4) hx hb d_Mo_sendFirsts_74 rfl ?_
                exact ih _ _ _ _ _ _ _ _ h hP hF (lv_sub (l' := [(0, .ref (L.2.1 20 r0)), (1, .int x1), (2, .int (x2 + 1)), (3, .int (x3 + 1))]) hl [3, 4, 1, 0] rfl) hv_r0
              · cases h
                exact mm_goT (x := xe + 1) (mm_goV (As := [.int x1, .int x3]) (rest := []) hX (c_Mo_postFirst hv_r0 hf6) yw_Mo_postFirst wt_748 wt_750 ws_1_4 hP hF (mm_recv (h := 20) (i := r0) hX hP hv_r0 rfl rfl) rfl hl.1 (Nat.le_of_ble_eq_true rfl) (by decide) (by decide) hRc hRs d_Mo_sendFirsts_65) hF hex hlk
          · cases h
            exact mm_goT (x := xe + 1) (mm_goV (As := [.int x1, .int x3]) (rest := []) hX (c_Mo_direction hv_r0 hf3) yw_Mo_direction wt_744 wt_746 ws_1_3 hP hF (mm_recv (h := 20) (i := r0) hX hP hv_r0 rfl rfl) rfl hl.1 (Nat.le_of_ble_eq_true rfl) (by decide) (by decide) hRc hRs d_Mo_sendFirsts_40) hF hex hlk
        · have h := mm_neg hc h
          refine lv_aload_n hx hb d_Mo_sendFirsts_27 rfl (lv_at hl 0 rfl) ?_
          refine mm_get (h := 20) (i := r0) 2 hX hP hv_r0 rfl rfl uin_20 (by decide) ⟨rfl, rfl, rfl⟩ wt_614 rfl d_Mo_sendFirsts_28 ?_
          refine lv_iload_n hx hb d_Mo_sendFirsts_31 rfl (lv_at hl 3 rfl) ?_
          obtain ⟨hin, h⟩ := mm_ix_some h
          refine mm_iald (h := 21) (i := 0) hX hP mm_ls21 (fun _ => rfl) rfl hin d_Mo_sendFirsts_32 ?_
          refine lv_iload_n hx hb d_Mo_sendFirsts_33 rfl (lv_at hl 1 rfl) ?_
          refine lv_icmp_ne (tgt := 71) hx hb d_Mo_sendFirsts_34 rfl (fun hc => ?_) (fun hc => ?_)
          · have h := mm_neg hc h
            refine lv_iinc (k := 3) (v := (x3 + 1)) hx hb d_Mo_sendFirsts_71 hl rfl (congrArg (fun z => x3 + z) mm_i1) (Nat.lt_of_lt_of_le (Nat.lt_succ_self _) (Nat.le_of_ble_eq_true rfl)) rfl (fun ls hl => ?_)
            have hl : lv_has ls 5 [(3, .int (x3 + 1)), (0, .ref (L.2.1 20 r0)), (1, .int x1), (2, .int x2)] := hl
            refine lv_goto (tgt := 4) hx hb d_Mo_sendFirsts_74 rfl ?_
            exact ih _ _ _ _ _ _ _ _ h hP hF (lv_sub (l' := [(0, .ref (L.2.1 20 r0)), (1, .int x1), (2, .int x2), (3, .int (x3 + 1))]) hl [1, 2, 3, 0] rfl) hv_r0
          · have h := mm_pos hc h
            refine lv_aload_n hx hb d_Mo_sendFirsts_37 rfl (lv_at hl 0 rfl) ?_
            refine lv_iload_n hx hb d_Mo_sendFirsts_38 rfl (lv_at hl 1 rfl) ?_
            refine lv_iload_n hx hb d_Mo_sendFirsts_39 rfl (lv_at hl 3 rfl) ?_
            rcases mm_bd_some h with ⟨z7, g8, hf9, h⟩ | ⟨xe, z7, g8, hf9, h⟩
            · refine mm_goR (v := (some (.int z7))) (mm_goV (As := [.int x1, .int x3]) (rest := []) hX (c_Mo_direction hv_r0 hf9) yw_Mo_direction wt_744 wt_746 ws_1_3 hP hF (mm_recv (h := 20) (i := r0) hX hP hv_r0 rfl rfl) rfl hl.1 (Nat.le_of_ble_eq_true rfl) (by decide) (by decide) hRc hRs d_Mo_sendFirsts_40) hF (fun H locs hP hF _ => ?_)
              refine lv_istore hx hb d_Mo_sendFirsts_43 hl (Nat.lt_of_lt_of_le (Nat.lt_succ_self _) (Nat.le_of_ble_eq_true rfl)) rfl (fun ls hl => ?_)
              have hl : lv_has ls 5 [(4, .int z7), (0, .ref (L.2.1 20 r0)), (1, .int x1), (2, .int x2), (3, .int x3)] := hl
              refine lv_aload_n hx hb d_Mo_sendFirsts_45 rfl (lv_at hl 1 rfl) ?_
              refine mm_get (h := 20) (i := r0) 16 hX hP hv_r0 rfl rfl uin_20 (by decide) ⟨rfl, rfl, rfl⟩ wt_628 rfl d_Mo_sendFirsts_46 ?_
              refine lv_iload hx hb d_Mo_sendFirsts_49 (lv_at hl 0 rfl) ?_
              obtain ⟨hin, h⟩ := mm_ix_some h
              refine mm_iald (h := 35) (i := 0) hX hP mm_ls35 (fun _ => rfl) rfl hin d_Mo_sendFirsts_51 ?_
              refine lv_aload_n hx hb d_Mo_sendFirsts_52 rfl (lv_at hl 1 rfl) ?_
              refine mm_get (h := 20) (i := r0) 15 hX hP hv_r0 rfl rfl uin_20 (by decide) ⟨rfl, rfl, rfl⟩ wt_627 rfl d_Mo_sendFirsts_53 ?_
              refine lv_iload hx hb d_Mo_sendFirsts_56 (lv_at hl 0 rfl) ?_
              obtain ⟨hin, h⟩ := mm_ix_some h
              refine mm_iald (h := 34) (i := 0) hX hP mm_ls34 (fun _ => rfl) rfl hin d_Mo_sendFirsts_58 ?_
              refine lv_icmp_le (tgt := 71) hx hb d_Mo_sendFirsts_59 rfl (fun hc => ?_) (fun hc => ?_)
              · have h := mm_pos hc h
                refine lv_iinc (k := 4) (v := (x3 + 1)) hx hb d_Mo_sendFirsts_71 hl rfl (congrArg (fun z => x3 + z) mm_i1) (Nat.lt_of_lt_of_le (Nat.lt_succ_self _) (Nat.le_of_ble_eq_true rfl)) rfl (fun ls hl => ?_)
                have hl : lv_has ls 5 [(3, .int (x3 + 1)), (4, .int z7), (0, .ref (L.2.1 20 r0)), (1, .int x1), (2, .int x2)] := hl
                refine lv_goto (tgt := 4) hx hb d_Mo_sendFirsts_74 rfl ?_
                exact ih _ _ _ _ _ _ _ _ h hP hF (lv_sub (l' := [(0, .ref (L.2.1 20 r0)), (1, .int x1), (2, .int x2), (3, .int (x3 + 1))]) hl [2, 3, 4, 0] rfl) hv_r0
              · have h := mm_neg hc h
                refine lv_aload_n hx hb d_Mo_sendFirsts_62 rfl (lv_at hl 1 rfl) ?_
                refine lv_iload_n hx hb d_Mo_sendFirsts_63 rfl (lv_at hl 2 rfl) ?_
                refine lv_iload_n hx hb d_Mo_sendFirsts_64 rfl (lv_at hl 4 rfl) ?_
                rcases mm_bd_some h with ⟨z10, g11, hf12, h⟩ | ⟨xe, z10, g11, hf12, h⟩
                · refine mm_goR (v := none) (mm_goV (As := [.int x1, .int x3]) (rest := []) hX (c_Mo_postFirst hv_r0 hf12) yw_Mo_postFirst wt_748 wt_750 ws_1_4 hP hF (mm_recv (h := 20) (i := r0) hX hP hv_r0 rfl rfl) rfl hl.1 (Nat.le_of_ble_eq_true rfl) (by decide) (by decide) hRc hRs d_Mo_sendFirsts_65) hF (fun H locs hP hF _ => ?_)
                  refine lv_iinc (k := 3) (v := (x2 + 1)) hx hb d_Mo_sendFirsts_68 hl rfl (congrArg (fun z => x2 + z) mm_i1) (Nat.lt_of_lt_of_le (Nat.lt_succ_self _) (Nat.le_of_ble_eq_true rfl)) rfl (fun ls hl => ?_)
                  have hl : lv_has ls 5 [(2, .int (x2 + 1)), (4, .int z7), (0, .ref (L.2.1 20 r0)), (1, .int x1), (3, .int x3)] := hl
                  refine lv_iinc (k := 4) (v := (x3 + 1)) hx hb d_Mo_sendFirsts_71 hl rfl (congrArg (fun z => x3 + z) mm_i1) (Nat.lt_of_lt_of_le (Nat.lt_succ_self _) (Nat.le_of_ble_eq_true rfl)) rfl (fun ls hl => ?_)
                  have hl : lv_has ls 5 [(3, .int (x3 + 1)), (2, .int (x2 + 1)), (4, .int z7), (0, .ref (L.2.1 20 r0)), (1, .int x1)] := hl
                  refine lv_goto (tgt := 4) hx hb d_Mo_sendFirsts_74 rfl ?_
                  exact ih _ _ _ _ _ _ _ _ h hP hF (lv_sub (l' := [(0, .ref (L.2.1 20 r0)), (1, .int x1), (2, .int (x2 + 1)), (3, .int (x3 + 1))]) hl [3, 4, 1, 0] rfl) hv_r0
                · cases h
                  exact mm_goT (x := xe + 1) (mm_goV (As := [.int x1, .int x3]) (rest := []) hX (c_Mo_postFirst hv_r0 hf12) yw_Mo_postFirst wt_748 wt_750 ws_1_4 hP hF (mm_recv (h := 20) (i := r0) hX hP hv_r0 rfl rfl) rfl hl.1 (Nat.le_of_ble_eq_true rfl) (by decide) (by decide) hRc hRs d_Mo_sendFirsts_65) hF hex hlk
            · cases h
              exact mm_goT (x := xe + 1) (mm_goV (As := [.int x1, .int x3]) (rest := []) hX (c_Mo_direction hv_r0 hf9) yw_Mo_direction wt_744 wt_746 ws_1_3 hP hF (mm_recv (h := 20) (i := r0) hX hP hv_r0 rfl rfl) rfl hl.1 (Nat.le_of_ble_eq_true rfl) (by decide) (by decide) hRc hRs d_Mo_sendFirsts_40) hF hex hlk
def f_Mo_sendFirsts (n : Nat) (g : mm_M) (r0 : Nat) (x1 : Int32) : Option (Nat × Int32 × mm_M) :=
  f_Mo_sendFirsts_l4 n 4096 g r0 x1 0 0
set_option maxRecDepth 100000 in
set_option maxHeartbeats 4000000 in
theorem w_Mo_sendFirsts {p : Program} {l : Launch} {e : Env} {R : Room} {s : State} {m : MethodId} {args : Array Value} {below : List Frame} {meth : Method} {c : Code} {L : mm_L} {eo : Nat} {v : Int32} {g' : mm_M} {g : mm_M} {r0 : Nat} {x1 : Int32} {H : Heap} {locs : List Loc} {ls : Array Slot} (hX : mm_X L prog_9_method_24_code 5 "LoanArrowsModel" (some .int) 2 50 p l R s m meth c) (h : f_Mo_sendFirsts L.1 g r0 x1 = some (eo, v, g')) (hP : mm_P L g H) (hF : ∀ q ∈ locs, mm_F L q.base) (hl : lv_has ls 5 [(0, .ref (L.2.1 20 r0)), (1, .int x1)]) (hv_r0 : mm_lv L.1 20 r0) : W p l e R s m args below meth c H locs 0 0 (mm_Q below L s (mm_oi eo v) g') (F0 m 0 ls []) := by
  have hX0 := hX
  obtain ⟨hx, hb, hml, hown, hr, hlk, hex, hRf, hRl, hRc, hRs, hJ, hK, hst, h00⟩ := hX0
  unfold f_Mo_sendFirsts at h
  refine lv_iconst (v := 0) hx hb d_Mo_sendFirsts_0 (by decide) ?_
  refine lv_istore_n hx hb d_Mo_sendFirsts_1 rfl hl (Nat.lt_of_lt_of_le (Nat.lt_succ_self _) (Nat.le_of_ble_eq_true rfl)) rfl (fun ls hl => ?_)
  have hl : lv_has ls 5 [(2, .int 0), (0, .ref (L.2.1 20 r0)), (1, .int x1)] := hl
  refine lv_iconst (v := 0) hx hb d_Mo_sendFirsts_2 (by decide) ?_
  refine lv_istore_n hx hb d_Mo_sendFirsts_3 rfl hl (Nat.lt_of_lt_of_le (Nat.lt_succ_self _) (Nat.le_of_ble_eq_true rfl)) rfl (fun ls hl => ?_)
  have hl : lv_has ls 5 [(3, .int 0), (2, .int 0), (0, .ref (L.2.1 20 r0)), (1, .int x1)] := hl
  exact w_Mo_sendFirsts_l4 hX _ _ _ _ _ _ _ _ _ h hP hF (lv_sub (l' := [(0, .ref (L.2.1 20 r0)), (1, .int x1), (2, .int 0), (3, .int 0)]) hl [2, 3, 1, 0] rfl) hv_r0
set_option maxRecDepth 100000 in
set_option maxHeartbeats 4000000 in
theorem c_Mo_sendFirsts {l : Launch} {L : mm_L} {g g' : mm_M} {eo : Nat} {v : Int32} {r0 : Nat} {x1 : Int32} (hv_r0 : mm_lv L.1 20 r0) (h : f_Mo_sendFirsts L.1 g r0 x1 = some (eo, v, g')) : mm_C l y_Mo_sendFirsts prog_9_method_24_code 5 (some .int) 2 50 L [.ref (L.2.1 20 r0), .int x1] g (mm_oi eo v) g' := by
  intro p e R s m below meth c hX hP
  refine mm_enter (Nat.le_of_ble_eq_true rfl) fun ls hl => ?_
  exact w_Mo_sendFirsts hX h hP (fun q hq => by cases hq) (lv_sub (l' := [(0, .ref (L.2.1 20 r0)), (1, .int x1)]) hl [0, 1] rfl) hv_r0

def v_De_init (n : Nat) (ad : Nat → Nat → Nat) (zm ym : Nat) (g : mm_M) (z y : Nat) (r0 : Nat) : Option (mm_M × Nat × Nat) :=
  mm_ln 4 4 (mm_al z (ad 9 r0) zm y 4 ym (mm_let (mm_row g 9 r0 (fun _ => 0)) (fun g3 => mm_let (mm_st g3 8 r0 0 1) (fun g5 => mm_let (mm_st g5 8 r0 2 (-1)) (fun g7 => mm_let (mm_st g7 8 r0 3 (-1)) (fun g9 => mm_let (mm_st g9 8 r0 4 0) (fun g11 => some (g11, (z + 1), (y + 4)))))))))
set_option maxRecDepth 100000 in
set_option maxHeartbeats 4000000 in
theorem wv_De_init {p : Program} {l : Launch} {e : Env} {R : Room} {s : State} {m : MethodId} {args : Array Value} {below : List Frame} {meth : Method} {c : Code} {L : mm_L} {zm ym y0 B z' y' : Nat} {g' : mm_M} {g : mm_M} {z y : Nat} {r0 : Nat} {H : Heap} {locs : List Loc} {ls : Array Slot} {cells slots : Nat} (hX : mm_Y L prog_3_method_1_code 1 "LoanArrows$Desk" 1 30 zm ym y0 B p l R s m meth c) (hBL : ∀ h i, mm_lv L.1 h i → B ≤ L.2.1 h i) (h : v_De_init L.1 L.2.1 zm ym g z y r0 = some (g', z', y')) (hP : mm_V B L g H) (hF : ∀ q ∈ locs, B ≤ q.base) (hz : H.size = z) (hcs : cells + s.heap.size = z) (hsy : slots + y0 = y) (hl : lv_has ls 1 [(0, .ref (L.2.1 8 r0))]) (hv_r0 : mm_lv L.1 8 r0) (hlt0 : L.2.1 8 r0 < z) : W p l e R s m args below meth c H locs cells slots (mm_QV below L s B y0 g' z' y') (F0 m 0 ls []) := by
  have hX0 := hX
  obtain ⟨hx, hb, hml, hown, hr, hlk, hRf, hRl, hJ, hK, hin0, hB0, hRc, hRs, hA0, hNS⟩ := hX0
  unfold v_De_init at h
  refine lv_aload_n hx hb d_De_init_0 rfl (lv_at hl 0 rfl) ?_
  refine mm_vobj hX wt_53 wt_23 wt_24 hl.1 (by decide) (Nat.le_of_ble_eq_true rfl) d_De_init_1 ?_
  refine lv_aload_n hx hb d_De_init_4 rfl (lv_at hl 0 rfl) ?_
  refine lv_iconst (v := 4) hx hb d_De_init_5 (by decide) ?_
  obtain ⟨hn2, hn2b, h⟩ := mm_ln_some h
  obtain ⟨ha1, ha1b, ha1c, h⟩ := mm_al_some h
  refine mm_vnewa (atype := .int) (ty := .int) (h := 9) (i := r0) (t := 0) (N := 4) hX hP hv_r0 (by omega) rfl (mm_ceI _ _) rfl rfl (fun q => q) wt_39 hn2 hn2b (by decide) (by omega) (by omega) d_De_init_6 (fun H hzz hP => ?_)
  obtain ⟨g3, e4, h⟩ := mm_let_ex h
  have hP : mm_V B L g3 H := by rw [e4]; exact hP
  replace hz : H.size = z + 1 := by omega
  replace hcs := mm_pl 1 hcs
  replace hsy := mm_pl 4 hsy
  clear hzz ha1b ha1c
  refine mm_vput (h := 8) (i := r0) 0 1 hX hP hF hv_r0 (by omega) (hBL _ _ hv_r0) rfl rfl rfl uin_8 ty_8 tyok_8 nmok_8 (by decide) ⟨rfl, rfl, rfl⟩ (Or.inr ⟨rfl, rfl⟩) wt_54 rfl rfl rfl (Nat.le_of_ble_eq_true rfl) d_De_init_8 (fun H locs hzz hP hF => ?_)
  obtain ⟨g5, e6, h⟩ := mm_let_ex h
  have hP : mm_V B L g5 H := by rw [e6]; exact hP
  replace hz : H.size = (z + 1) := by omega
  clear hzz
  refine lv_aload_n hx hb d_De_init_11 rfl (lv_at hl 0 rfl) ?_
  refine lv_iconst (v := -1) hx hb d_De_init_12 (by decide) ?_
  refine mm_vput (h := 8) (i := r0) 2 (-1) hX hP hF hv_r0 (by omega) (hBL _ _ hv_r0) rfl rfl rfl uin_8 ty_8 tyok_8 nmok_8 (by decide) ⟨rfl, rfl, rfl⟩ (Or.inl rfl) wt_57 rfl rfl rfl (Nat.le_of_ble_eq_true rfl) d_De_init_13 (fun H locs hzz hP hF => ?_)
  obtain ⟨g7, e8, h⟩ := mm_let_ex h
  have hP : mm_V B L g7 H := by rw [e8]; exact hP
  replace hz : H.size = (z + 1) := by omega
  clear hzz
  refine lv_aload_n hx hb d_De_init_16 rfl (lv_at hl 0 rfl) ?_
  refine lv_iconst (v := -1) hx hb d_De_init_17 (by decide) ?_
  refine mm_vput (h := 8) (i := r0) 3 (-1) hX hP hF hv_r0 (by omega) (hBL _ _ hv_r0) rfl rfl rfl uin_8 ty_8 tyok_8 nmok_8 (by decide) ⟨rfl, rfl, rfl⟩ (Or.inl rfl) wt_60 rfl rfl rfl (Nat.le_of_ble_eq_true rfl) d_De_init_18 (fun H locs hzz hP hF => ?_)
  obtain ⟨g9, e10, h⟩ := mm_let_ex h
  have hP : mm_V B L g9 H := by rw [e10]; exact hP
  replace hz : H.size = (z + 1) := by omega
  clear hzz
  refine lv_aload_n hx hb d_De_init_21 rfl (lv_at hl 0 rfl) ?_
  refine lv_iconst (v := 0) hx hb d_De_init_22 (by decide) ?_
  refine mm_vput (h := 8) (i := r0) 4 0 hX hP hF hv_r0 (by omega) (hBL _ _ hv_r0) rfl rfl rfl uin_8 ty_8 tyok_8 nmok_8 (by decide) ⟨rfl, rfl, rfl⟩ (Or.inl rfl) wt_63 rfl rfl rfl (Nat.le_of_ble_eq_true rfl) d_De_init_23 (fun H locs hzz hP hF => ?_)
  obtain ⟨g11, e12, h⟩ := mm_let_ex h
  have hP : mm_V B L g11 H := by rw [e12]; exact hP
  replace hz : H.size = (z + 1) := by omega
  clear hzz
  cases h
  exact mm_vvret hX hP hF hz hcs hsy d_De_init_26
set_option maxRecDepth 100000 in
set_option maxHeartbeats 4000000 in
theorem cv_De_init {l : Launch} {L : mm_L} {g g' : mm_M} {zm ym B z y z' y' : Nat} {r0 : Nat} (hBL : ∀ h i, mm_lv L.1 h i → B ≤ L.2.1 h i) (hv_r0 : mm_lv L.1 8 r0) (hlt0 : L.2.1 8 r0 < z) (h : v_De_init L.1 L.2.1 zm ym g z y r0 = some (g', z', y')) : mm_CV l y_De_init prog_3_method_1_code 1 1 30 zm ym B L [.ref (L.2.1 8 r0)] g z y g' z' y' := by
  intro p e R s m below meth c hX hP hz
  refine mm_enter (Nat.le_of_ble_eq_true rfl) fun ls hl => ?_
  exact wv_De_init hX hBL h hP (fun q hq => by cases hq) hz (by omega) (by omega) (lv_sub (l' := [(0, .ref (L.2.1 8 r0))]) hl [0] rfl) hv_r0 hlt0
def v_Li_init (n : Nat) (ad : Nat → Nat → Nat) (zm ym : Nat) (g : mm_M) (z y : Nat) (r0 : Nat) : Option (mm_M × Nat × Nat) :=
  mm_ln 4 4 (mm_al z (ad 15 r0) zm y 4 ym (mm_let (mm_row g 15 r0 (fun _ => 0)) (fun g3 => mm_let (mm_st g3 14 r0 0 1) (fun g5 => mm_ln 4 4 (mm_al (z + 1) (ad 16 r0) zm (y + 4) 4 ym (mm_let (mm_row g5 16 r0 (fun _ => 0)) (fun g9 => mm_let (mm_st g9 14 r0 1 1) (fun g11 => some (g11, ((z + 1) + 1), ((y + 4) + 4))))))))))
set_option maxRecDepth 100000 in
set_option maxHeartbeats 4000000 in
theorem wv_Li_init {p : Program} {l : Launch} {e : Env} {R : Room} {s : State} {m : MethodId} {args : Array Value} {below : List Frame} {meth : Method} {c : Code} {L : mm_L} {zm ym y0 B z' y' : Nat} {g' : mm_M} {g : mm_M} {z y : Nat} {r0 : Nat} {H : Heap} {locs : List Loc} {ls : Array Slot} {cells slots : Nat} (hX : mm_Y L prog_4_method_1_code 1 "LoanArrows$Line" 1 30 zm ym y0 B p l R s m meth c) (hBL : ∀ h i, mm_lv L.1 h i → B ≤ L.2.1 h i) (h : v_Li_init L.1 L.2.1 zm ym g z y r0 = some (g', z', y')) (hP : mm_V B L g H) (hF : ∀ q ∈ locs, B ≤ q.base) (hz : H.size = z) (hcs : cells + s.heap.size = z) (hsy : slots + y0 = y) (hl : lv_has ls 1 [(0, .ref (L.2.1 14 r0))]) (hv_r0 : mm_lv L.1 14 r0) (hlt0 : L.2.1 14 r0 < z) : W p l e R s m args below meth c H locs cells slots (mm_QV below L s B y0 g' z' y') (F0 m 0 ls []) := by
  have hX0 := hX
  obtain ⟨hx, hb, hml, hown, hr, hlk, hRf, hRl, hJ, hK, hin0, hB0, hRc, hRs, hA0, hNS⟩ := hX0
  unfold v_Li_init at h
  refine lv_aload_n hx hb d_Li_init_0 rfl (lv_at hl 0 rfl) ?_
  refine mm_vobj hX wt_125 wt_23 wt_24 hl.1 (by decide) (Nat.le_of_ble_eq_true rfl) d_Li_init_1 ?_
  refine lv_aload_n hx hb d_Li_init_4 rfl (lv_at hl 0 rfl) ?_
  refine lv_iconst (v := 4) hx hb d_Li_init_5 (by decide) ?_
  obtain ⟨hn2, hn2b, h⟩ := mm_ln_some h
  obtain ⟨ha1, ha1b, ha1c, h⟩ := mm_al_some h
  refine mm_vnewa (atype := .int) (ty := .int) (h := 15) (i := r0) (t := 0) (N := 4) hX hP hv_r0 (by omega) rfl (mm_ceI _ _) rfl rfl (fun q => q) wt_39 hn2 hn2b (by decide) (by omega) (by omega) d_Li_init_6 (fun H hzz hP => ?_)
  obtain ⟨g3, e4, h⟩ := mm_let_ex h
  have hP : mm_V B L g3 H := by rw [e4]; exact hP
  replace hz : H.size = z + 1 := by omega
  replace hcs := mm_pl 1 hcs
  replace hsy := mm_pl 4 hsy
  clear hzz ha1b ha1c
  refine mm_vput (h := 14) (i := r0) 0 1 hX hP hF hv_r0 (by omega) (hBL _ _ hv_r0) rfl rfl rfl uin_14 ty_14 tyok_14 nmok_14 (by decide) ⟨rfl, rfl, rfl⟩ (Or.inr ⟨rfl, rfl⟩) wt_126 rfl rfl rfl (Nat.le_of_ble_eq_true rfl) d_Li_init_8 (fun H locs hzz hP hF => ?_)
  obtain ⟨g5, e6, h⟩ := mm_let_ex h
  have hP : mm_V B L g5 H := by rw [e6]; exact hP
  replace hz : H.size = (z + 1) := by omega
  clear hzz
  refine lv_aload_n hx hb d_Li_init_11 rfl (lv_at hl 0 rfl) ?_
  refine lv_iconst (v := 4) hx hb d_Li_init_12 (by decide) ?_
  obtain ⟨hn8, hn8b, h⟩ := mm_ln_some h
  obtain ⟨ha7, ha7b, ha7c, h⟩ := mm_al_some h
  refine mm_vnewa (atype := .int) (ty := .int) (h := 16) (i := r0) (t := 0) (N := 4) hX hP hv_r0 (by omega) rfl (mm_ceI _ _) rfl rfl (fun q => q) wt_39 hn8 hn8b (by decide) (by omega) (by omega) d_Li_init_13 (fun H hzz hP => ?_)
  obtain ⟨g9, e10, h⟩ := mm_let_ex h
  have hP : mm_V B L g9 H := by rw [e10]; exact hP
  replace hz : H.size = (z + 1) + 1 := by omega
  replace hcs := mm_pl 1 hcs
  replace hsy := mm_pl 4 hsy
  clear hzz ha7b ha7c
  refine mm_vput (h := 14) (i := r0) 1 1 hX hP hF hv_r0 (by omega) (hBL _ _ hv_r0) rfl rfl rfl uin_14 ty_14 tyok_14 nmok_14 (by decide) ⟨rfl, rfl, rfl⟩ (Or.inr ⟨rfl, rfl⟩) wt_127 rfl rfl rfl (Nat.le_of_ble_eq_true rfl) d_Li_init_15 (fun H locs hzz hP hF => ?_)
  obtain ⟨g11, e12, h⟩ := mm_let_ex h
  have hP : mm_V B L g11 H := by rw [e12]; exact hP
  replace hz : H.size = ((z + 1) + 1) := by omega
  clear hzz
  cases h
  exact mm_vvret hX hP hF hz hcs hsy d_Li_init_18
set_option maxRecDepth 100000 in
set_option maxHeartbeats 4000000 in
theorem cv_Li_init {l : Launch} {L : mm_L} {g g' : mm_M} {zm ym B z y z' y' : Nat} {r0 : Nat} (hBL : ∀ h i, mm_lv L.1 h i → B ≤ L.2.1 h i) (hv_r0 : mm_lv L.1 14 r0) (hlt0 : L.2.1 14 r0 < z) (h : v_Li_init L.1 L.2.1 zm ym g z y r0 = some (g', z', y')) : mm_CV l y_Li_init prog_4_method_1_code 1 1 30 zm ym B L [.ref (L.2.1 14 r0)] g z y g' z' y' := by
  intro p e R s m below meth c hX hP hz
  refine mm_enter (Nat.le_of_ble_eq_true rfl) fun ls hl => ?_
  exact wv_Li_init hX hBL h hP (fun q hq => by cases hq) hz (by omega) (by omega) (lv_sub (l' := [(0, .ref (L.2.1 14 r0))]) hl [0] rfl) hv_r0 hlt0
def v_Po_init (n : Nat) (ad : Nat → Nat → Nat) (zm ym : Nat) (g : mm_M) (z y : Nat)  : Option (mm_M × Nat × Nat) :=
  mm_ln 240 240 (mm_al z (ad 11 0) zm y 240 ym (mm_let (mm_row g 11 0 (fun _ => 0)) (fun g3 => mm_let (mm_st g3 10 0 0 1) (fun g5 => some (g5, (z + 1), (y + 240))))))
set_option maxRecDepth 100000 in
set_option maxHeartbeats 4000000 in
theorem wv_Po_init {p : Program} {l : Launch} {e : Env} {R : Room} {s : State} {m : MethodId} {args : Array Value} {below : List Frame} {meth : Method} {c : Code} {L : mm_L} {zm ym y0 B z' y' : Nat} {g' : mm_M} {g : mm_M} {z y : Nat} {H : Heap} {locs : List Loc} {ls : Array Slot} {cells slots : Nat} (hX : mm_Y L prog_6_method_1_code 1 "LoanArrows$Post" 1 30 zm ym y0 B p l R s m meth c) (hBL : ∀ h i, mm_lv L.1 h i → B ≤ L.2.1 h i) (h : v_Po_init L.1 L.2.1 zm ym g z y = some (g', z', y')) (hP : mm_V B L g H) (hF : ∀ q ∈ locs, B ≤ q.base) (hz : H.size = z) (hcs : cells + s.heap.size = z) (hsy : slots + y0 = y) (hl : lv_has ls 1 [(0, .ref (L.2.1 10 0))]) (hlt0 : L.2.1 10 0 < z) : W p l e R s m args below meth c H locs cells slots (mm_QV below L s B y0 g' z' y') (F0 m 0 ls []) := by
  have hX0 := hX
  obtain ⟨hx, hb, hml, hown, hr, hlk, hRf, hRl, hJ, hK, hin0, hB0, hRc, hRs, hA0, hNS⟩ := hX0
  unfold v_Po_init at h
  refine lv_aload_n hx hb d_Po_init_0 rfl (lv_at hl 0 rfl) ?_
  refine mm_vobj hX wt_104 wt_23 wt_24 hl.1 (by decide) (Nat.le_of_ble_eq_true rfl) d_Po_init_1 ?_
  refine lv_aload_n hx hb d_Po_init_4 rfl (lv_at hl 0 rfl) ?_
  refine lv_sipush (v := 240) hx hb d_Po_init_5 (by decide) ?_
  obtain ⟨hn2, hn2b, h⟩ := mm_ln_some h
  obtain ⟨ha1, ha1b, ha1c, h⟩ := mm_al_some h
  refine mm_vnewa (atype := .int) (ty := .int) (h := 11) (i := 0) (t := 0) (N := 240) hX hP mm_ls11 (by omega) rfl (mm_ceI _ _) rfl rfl (fun q => q) wt_39 hn2 hn2b (by decide) (by omega) (by omega) d_Po_init_8 (fun H hzz hP => ?_)
  obtain ⟨g3, e4, h⟩ := mm_let_ex h
  have hP : mm_V B L g3 H := by rw [e4]; exact hP
  replace hz : H.size = z + 1 := by omega
  replace hcs := mm_pl 1 hcs
  replace hsy := mm_pl 240 hsy
  clear hzz ha1b ha1c
  refine mm_vput (h := 10) (i := 0) 0 1 hX hP hF mm_ls10 (by omega) (hBL _ _ mm_ls10) rfl rfl rfl uin_10 ty_10 tyok_10 nmok_10 (by decide) ⟨rfl, rfl, rfl⟩ (Or.inr ⟨rfl, rfl⟩) wt_105 rfl rfl rfl (Nat.le_of_ble_eq_true rfl) d_Po_init_10 (fun H locs hzz hP hF => ?_)
  obtain ⟨g5, e6, h⟩ := mm_let_ex h
  have hP : mm_V B L g5 H := by rw [e6]; exact hP
  replace hz : H.size = (z + 1) := by omega
  clear hzz
  cases h
  exact mm_vvret hX hP hF hz hcs hsy d_Po_init_13
set_option maxRecDepth 100000 in
set_option maxHeartbeats 4000000 in
theorem cv_Po_init {l : Launch} {L : mm_L} {g g' : mm_M} {zm ym B z y z' y' : Nat} (hBL : ∀ h i, mm_lv L.1 h i → B ≤ L.2.1 h i) (hlt0 : L.2.1 10 0 < z) (h : v_Po_init L.1 L.2.1 zm ym g z y = some (g', z', y')) : mm_CV l y_Po_init prog_6_method_1_code 1 1 30 zm ym B L [.ref (L.2.1 10 0)] g z y g' z' y' := by
  intro p e R s m below meth c hX hP hz
  refine mm_enter (Nat.le_of_ble_eq_true rfl) fun ls hl => ?_
  exact wv_Po_init hX hBL h hP (fun q hq => by cases hq) hz (by omega) (by omega) (lv_sub (l' := [(0, .ref (L.2.1 10 0))]) hl [0] rfl) hlt0
def v_Tr_init_l20 (n : Nat) (ad : Nat → Nat → Nat) (zm ym : Nat) : Nat → mm_M → Nat → Nat → Int32 → Int32 → Int32 → Option (mm_M × Nat × Nat)
  | 0, _, _, _, _, _, _ => none
  | k + 1, g, z, y, x1, x2, x3 => (if x1 ≤ x3 then some (g, z, y) else mm_nn (g 2 0 0) (mm_lt (ad 3 0) z (mm_gd z zm y ym (mm_o1 (p_Tr_parentByShape x3 x2) (fun z3 => mm_ix x3 n (mm_let (mm_st g 3 0 x3.toNatClampNeg z3) (fun g6 => v_Tr_init_l20 n ad zm ym k g6 z y x1 x2 (x3 + 1))))))))
set_option maxRecDepth 100000 in
set_option maxHeartbeats 4000000 in
theorem wv_Tr_init_l20 {p : Program} {l : Launch} {e : Env} {R : Room} {s : State} {m : MethodId} {args : Array Value} {below : List Frame} {meth : Method} {c : Code} {L : mm_L} {zm ym y0 B z' y' : Nat} {g' : mm_M} (hX : mm_Y L prog_7_method_1_code 4 "LoanArrows$Tree" 1 30 zm ym y0 B p l R s m meth c) (hBL : ∀ h i, mm_lv L.1 h i → B ≤ L.2.1 h i) : ∀ (k : Nat) (g : mm_M) (z y : Nat) (x1 : Int32) (x2 : Int32) (x3 : Int32) (H : Heap) (locs : List Loc) (ls : Array Slot) (cells slots : Nat), v_Tr_init_l20 L.1 L.2.1 zm ym k g z y x1 x2 x3 = some (g', z', y') → mm_V B L g H → (∀ q ∈ locs, B ≤ q.base) → H.size = z → cells + s.heap.size = z → slots + y0 = y → lv_has ls 4 [(0, .ref (L.2.1 2 0)), (1, .int x1), (2, .int x2), (3, .int x3)] → L.2.1 2 0 < z → W p l e R s m args below meth c H locs cells slots (mm_QV below L s B y0 g' z' y') (F0 m 20 ls []) := by
  have hX0 := hX
  obtain ⟨hx, hb, hml, hown, hr, hlk, hRf, hRl, hJ, hK, hin0, hB0, hRc, hRs, hA0, hNS⟩ := hX0
  intro k
  induction k with
  | zero =>
    intro g z y x1 x2 x3 H locs ls cells slots h hP hF hz hcs hsy hl hlt0
    rw [v_Tr_init_l20] at h
    cases h
  | succ k ih =>
    intro g z y x1 x2 x3 H locs ls cells slots h hP hF hz hcs hsy hl hlt0
    rw [v_Tr_init_l20] at h
    refine lv_iload_n hx hb d_Tr_init_20 rfl (lv_at hl 3 rfl) ?_
    refine lv_iload_n hx hb d_Tr_init_21 rfl (lv_at hl 1 rfl) ?_
    refine lv_icmp_ge (tgt := 42) hx hb d_Tr_init_22 rfl (fun hc => ?_) (fun hc => ?_)
    · have h := mm_pos hc h
      cases h
      exact mm_vvret hX hP hF hz hcs hsy d_Tr_init_42
    · have h := mm_neg hc h
      refine lv_aload_n hx hb d_Tr_init_25 rfl (lv_at hl 0 rfl) ?_
      obtain ⟨hne1, h⟩ := mm_nn_some h
      obtain ⟨hl2, h⟩ := mm_lt_some h
      refine mm_vgetR (h := 2) (i := 0) 0 hX hP mm_ls2 (by omega) rfl rfl uin_2 (by decide) ⟨rfl, rfl, rfl⟩ wt_34 rfl hne1 d_Tr_init_26 ?_
      refine lv_iload_n hx hb d_Tr_init_29 rfl (lv_at hl 3 rfl) ?_
      refine lv_iload_n hx hb d_Tr_init_30 rfl (lv_at hl 3 rfl) ?_
      refine lv_iload_n hx hb d_Tr_init_31 rfl (lv_at hl 2 rfl) ?_
      obtain ⟨hg5, hg5b, h⟩ := mm_gd_some h
      obtain ⟨z3, hf4, h⟩ := mm_o1_some h
      refine mm_goS0 (nP := 0) (As := [.int x3, .int x2]) (rest := [.int x3, .ref (L.2.1 3 0)]) hx hb hml hown (fun w hw => hK.2.1 w hw _) (cp_Tr_parentByShape hf4) yw_Tr_parentByShape wt_31 wt_32 wt_2 (fun _ _ _ => trivial) rfl hl.1 (Nat.le_of_ble_eq_true rfl) (by omega) (by omega) (by omega) (by omega) d_Tr_init_32 ?_
      obtain ⟨hin, h⟩ := mm_ix_some h
      refine mm_viast (h := 3) (i := 0) hX hP hF mm_ls3 (by omega) (hBL _ _ mm_ls3) (fun _ => rfl) rfl hin d_Tr_init_35 (fun H locs hzz hP hF => ?_)
      obtain ⟨g6, e7, h⟩ := mm_let_ex h
      have hP : mm_V B L g6 H := by rw [e7]; exact hP
      replace hz : H.size = z := by omega
      clear hzz
      refine lv_iinc (k := 3) (v := (x3 + 1)) hx hb d_Tr_init_36 hl rfl (congrArg (fun z => x3 + z) mm_i1) (Nat.lt_of_lt_of_le (Nat.lt_succ_self _) (Nat.le_of_ble_eq_true rfl)) rfl (fun ls hl => ?_)
      have hl : lv_has ls 4 [(3, .int (x3 + 1)), (0, .ref (L.2.1 2 0)), (1, .int x1), (2, .int x2)] := hl
      refine lv_goto (tgt := 20) hx hb d_Tr_init_39 rfl ?_
      exact ih _ _ _ _ _ _ _ _ _ _ _ h hP hF hz hcs hsy (lv_sub (l' := [(0, .ref (L.2.1 2 0)), (1, .int x1), (2, .int x2), (3, .int (x3 + 1))]) hl [1, 2, 3, 0] rfl) (by omega)
def v_Tr_init (n : Nat) (ad : Nat → Nat → Nat) (zm ym : Nat) (g : mm_M) (z y : Nat) (x1 : Int32) (x2 : Int32) : Option (mm_M × Nat × Nat) :=
  mm_ln x1 n (mm_al z (ad 3 0) zm y n ym (mm_let (mm_row g 3 0 (fun _ => 0)) (fun g3 => mm_let (mm_st g3 2 0 0 1) (fun g5 => mm_nn (g5 2 0 0) (mm_lt (ad 3 0) (z + 1) (mm_ix 0 n (mm_let (mm_st g5 3 0 (0 : Int32).toNatClampNeg (-1)) (fun g9 => v_Tr_init_l20 n ad zm ym 4096 g9 (z + 1) (y + n) x1 x2 1))))))))
set_option maxRecDepth 100000 in
set_option maxHeartbeats 4000000 in
theorem wv_Tr_init {p : Program} {l : Launch} {e : Env} {R : Room} {s : State} {m : MethodId} {args : Array Value} {below : List Frame} {meth : Method} {c : Code} {L : mm_L} {zm ym y0 B z' y' : Nat} {g' : mm_M} {g : mm_M} {z y : Nat} {x1 : Int32} {x2 : Int32} {H : Heap} {locs : List Loc} {ls : Array Slot} {cells slots : Nat} (hX : mm_Y L prog_7_method_1_code 4 "LoanArrows$Tree" 1 30 zm ym y0 B p l R s m meth c) (hBL : ∀ h i, mm_lv L.1 h i → B ≤ L.2.1 h i) (h : v_Tr_init L.1 L.2.1 zm ym g z y x1 x2 = some (g', z', y')) (hP : mm_V B L g H) (hF : ∀ q ∈ locs, B ≤ q.base) (hz : H.size = z) (hcs : cells + s.heap.size = z) (hsy : slots + y0 = y) (hl : lv_has ls 4 [(0, .ref (L.2.1 2 0)), (1, .int x1), (2, .int x2)]) (hlt0 : L.2.1 2 0 < z) : W p l e R s m args below meth c H locs cells slots (mm_QV below L s B y0 g' z' y') (F0 m 0 ls []) := by
  have hX0 := hX
  obtain ⟨hx, hb, hml, hown, hr, hlk, hRf, hRl, hJ, hK, hin0, hB0, hRc, hRs, hA0, hNS⟩ := hX0
  unfold v_Tr_init at h
  refine lv_aload_n hx hb d_Tr_init_0 rfl (lv_at hl 0 rfl) ?_
  refine mm_vobj hX wt_30 wt_23 wt_24 hl.1 (by decide) (Nat.le_of_ble_eq_true rfl) d_Tr_init_1 ?_
  refine lv_aload_n hx hb d_Tr_init_4 rfl (lv_at hl 0 rfl) ?_
  refine lv_iload_n hx hb d_Tr_init_5 rfl (lv_at hl 1 rfl) ?_
  obtain ⟨hn2, hn2b, h⟩ := mm_ln_some h
  obtain ⟨ha1, ha1b, ha1c, h⟩ := mm_al_some h
  refine mm_vnewa (atype := .int) (ty := .int) (h := 3) (i := 0) (t := 0) (N := L.1) hX hP mm_ls3 (by omega) rfl (mm_ceI _ _) rfl rfl (fun q => q) wt_39 hn2 hn2b (by decide) (by omega) (by omega) d_Tr_init_6 (fun H hzz hP => ?_)
  obtain ⟨g3, e4, h⟩ := mm_let_ex h
  have hP : mm_V B L g3 H := by rw [e4]; exact hP
  replace hz : H.size = z + 1 := by omega
  replace hcs := mm_pl 1 hcs
  replace hsy := mm_pl L.1 hsy
  clear hzz ha1b ha1c
  refine mm_vput (h := 2) (i := 0) 0 1 hX hP hF mm_ls2 (by omega) (hBL _ _ mm_ls2) rfl rfl rfl uin_2 ty_2 tyok_2 nmok_2 (by decide) ⟨rfl, rfl, rfl⟩ (Or.inr ⟨rfl, rfl⟩) wt_34 rfl rfl rfl (Nat.le_of_ble_eq_true rfl) d_Tr_init_8 (fun H locs hzz hP hF => ?_)
  obtain ⟨g5, e6, h⟩ := mm_let_ex h
  have hP : mm_V B L g5 H := by rw [e6]; exact hP
  replace hz : H.size = (z + 1) := by omega
  clear hzz
  refine lv_aload_n hx hb d_Tr_init_11 rfl (lv_at hl 0 rfl) ?_
  obtain ⟨hne7, h⟩ := mm_nn_some h
  obtain ⟨hl8, h⟩ := mm_lt_some h
  refine mm_vgetR (h := 2) (i := 0) 0 hX hP mm_ls2 (by omega) rfl rfl uin_2 (by decide) ⟨rfl, rfl, rfl⟩ wt_34 rfl hne7 d_Tr_init_12 ?_
  refine lv_iconst (v := 0) hx hb d_Tr_init_15 (by decide) ?_
  refine lv_iconst (v := -1) hx hb d_Tr_init_16 (by decide) ?_
  obtain ⟨hin, h⟩ := mm_ix_some h
  refine mm_viast (h := 3) (i := 0) hX hP hF mm_ls3 (by omega) (hBL _ _ mm_ls3) (fun _ => rfl) rfl hin d_Tr_init_17 (fun H locs hzz hP hF => ?_)
  obtain ⟨g9, e10, h⟩ := mm_let_ex h
  have hP : mm_V B L g9 H := by rw [e10]; exact hP
  replace hz : H.size = (z + 1) := by omega
  clear hzz
  refine lv_iconst (v := 1) hx hb d_Tr_init_18 (by decide) ?_
  refine lv_istore_n hx hb d_Tr_init_19 rfl hl (Nat.lt_of_lt_of_le (Nat.lt_succ_self _) (Nat.le_of_ble_eq_true rfl)) rfl (fun ls hl => ?_)
  have hl : lv_has ls 4 [(3, .int 1), (0, .ref (L.2.1 2 0)), (1, .int x1), (2, .int x2)] := hl
  exact wv_Tr_init_l20 hX hBL _ _ _ _ _ _ _ _ _ _ _ _ h hP hF hz hcs hsy (lv_sub (l' := [(0, .ref (L.2.1 2 0)), (1, .int x1), (2, .int x2), (3, .int 1)]) hl [1, 2, 3, 0] rfl) (by omega)
set_option maxRecDepth 100000 in
set_option maxHeartbeats 4000000 in
theorem cv_Tr_init {l : Launch} {L : mm_L} {g g' : mm_M} {zm ym B z y z' y' : Nat} {x1 : Int32} {x2 : Int32} (hBL : ∀ h i, mm_lv L.1 h i → B ≤ L.2.1 h i) (hlt0 : L.2.1 2 0 < z) (h : v_Tr_init L.1 L.2.1 zm ym g z y x1 x2 = some (g', z', y')) : mm_CV l y_Tr_init prog_7_method_1_code 4 1 30 zm ym B L [.ref (L.2.1 2 0), .int x1, .int x2] g z y g' z' y' := by
  intro p e R s m below meth c hX hP hz
  refine mm_enter (Nat.le_of_ble_eq_true rfl) fun ls hl => ?_
  exact wv_Tr_init hX hBL h hP (fun q hq => by cases hq) hz (by omega) (by omega) (lv_sub (l' := [(0, .ref (L.2.1 2 0)), (1, .int x1), (2, .int x2)]) hl [0, 1, 2] rfl) hlt0
def v_Co_init_l28 (n : Nat) (ad : Nat → Nat → Nat) (zm ym : Nat) : Nat → mm_M → Nat → Nat → Nat → Int32 → Int32 → Option (mm_M × Nat × Nat)
  | 0, _, _, _, _, _, _ => none
  | k + 1, g, z, y, r0, x1, x2 => (if x1 ≤ x2 then some (g, z, y) else mm_nn (g 5 r0 0) (mm_lt (ad 6 r0) z (mm_ix x2 n (mm_al z (ad 8 (12 * r0 + x2.toNatClampNeg)) zm y 6 ym (mm_let (mm_row g 8 (12 * r0 + x2.toNatClampNeg) (fun _ => 0)) (fun g5 => mm_gd (z + 1) zm (y + 6) ym (mm_bv (v_De_init n ad zm ym g5 (z + 1) (y + 6) (12 * r0 + x2.toNatClampNeg)) (fun g7 z8 y9 => mm_ix x2 n (mm_let (mm_st g7 6 r0 x2.toNatClampNeg 1) (fun g12 => v_Co_init_l28 n ad zm ym k g12 z8 y9 r0 x1 (x2 + 1)))))))))))
set_option maxRecDepth 100000 in
set_option maxHeartbeats 4000000 in
theorem wv_Co_init_l28 {p : Program} {l : Launch} {e : Env} {R : Room} {s : State} {m : MethodId} {args : Array Value} {below : List Frame} {meth : Method} {c : Code} {L : mm_L} {zm ym y0 B z' y' : Nat} {g' : mm_M} (hX : mm_Y L prog_2_method_1_code 3 "LoanArrows$Copy" 2 50 zm ym y0 B p l R s m meth c) (hBL : ∀ h i, mm_lv L.1 h i → B ≤ L.2.1 h i) : ∀ (k : Nat) (g : mm_M) (z y : Nat) (r0 : Nat) (x1 : Int32) (x2 : Int32) (H : Heap) (locs : List Loc) (ls : Array Slot) (cells slots : Nat), v_Co_init_l28 L.1 L.2.1 zm ym k g z y r0 x1 x2 = some (g', z', y') → mm_V B L g H → (∀ q ∈ locs, B ≤ q.base) → H.size = z → cells + s.heap.size = z → slots + y0 = y → lv_has ls 3 [(0, .ref (L.2.1 5 r0)), (1, .int x1), (2, .int x2)] → mm_lv L.1 5 r0 → L.2.1 5 r0 < z → W p l e R s m args below meth c H locs cells slots (mm_QV below L s B y0 g' z' y') (F0 m 28 ls []) := by
  have hX0 := hX
  obtain ⟨hx, hb, hml, hown, hr, hlk, hRf, hRl, hJ, hK, hin0, hB0, hRc, hRs, hA0, hNS⟩ := hX0
  intro k
  induction k with
  | zero =>
    intro g z y r0 x1 x2 H locs ls cells slots h hP hF hz hcs hsy hl hv_r0 hlt0
    rw [v_Co_init_l28] at h
    cases h
  | succ k ih =>
    intro g z y r0 x1 x2 H locs ls cells slots h hP hF hz hcs hsy hl hv_r0 hlt0
    rw [v_Co_init_l28] at h
    refine lv_iload_n hx hb d_Co_init_28 rfl (lv_at hl 2 rfl) ?_
    refine lv_iload_n hx hb d_Co_init_29 rfl (lv_at hl 1 rfl) ?_
    refine lv_icmp_ge (tgt := 52) hx hb d_Co_init_30 rfl (fun hc => ?_) (fun hc => ?_)
    · have h := mm_pos hc h
      cases h
      exact mm_vvret hX hP hF hz hcs hsy d_Co_init_52
    · have h := mm_neg hc h
      refine lv_aload_n hx hb d_Co_init_33 rfl (lv_at hl 0 rfl) ?_
      obtain ⟨hne1, h⟩ := mm_nn_some h
      obtain ⟨hl2, h⟩ := mm_lt_some h
      refine mm_vgetR (h := 5) (i := r0) 0 hX hP hv_r0 (by omega) rfl rfl uin_5 (by decide) ⟨rfl, rfl, rfl⟩ wt_80 rfl hne1 d_Co_init_34 ?_
      refine lv_iload_n hx hb d_Co_init_37 rfl (lv_at hl 2 rfl) ?_
      obtain ⟨hin3, h⟩ := mm_ix_some h
      obtain ⟨ha4, ha4b, ha4c, h⟩ := mm_al_some h
      refine mm_vnew (h := 8) (i := (12 * r0 + x2.toNatClampNeg)) ty_8 hX hP (mm_l8 (n := L.1) hv_r0 hin3) (by omega) rfl rfl uin_8 tyok_8 (fun j hj => by match j, hj with
          | 0, _ => rfl
          | 1, _ => rfl
          | 2, _ => rfl
          | 3, _ => rfl
          | 4, _ => rfl
          | 5, _ => rfl
          | j + 6, hj => exact absurd hj (by omega)) wt_47 wt_49 wt_4 (by omega) (by omega) d_Co_init_38 (fun H hzz hP => ?_)
      obtain ⟨g5, e6, h⟩ := mm_let_ex h
      have hP : mm_V B L g5 H := by rw [e6]; exact hP
      replace hz : H.size = z + 1 := by omega
      replace hcs := mm_pl 1 hcs
      replace hsy := mm_pl 6 hsy
      clear hzz ha4b ha4c
      refine lv_dup hx hb d_Co_init_41 rfl ?_
      obtain ⟨hg11, hg11b, h⟩ := mm_gd_some h
      obtain ⟨g7, z8, y9, hf10, h⟩ := mm_bv_some h
      refine mm_vIN (As := []) (rest := [.ref (L.2.1 8 (12 * r0 + x2.toNatClampNeg)), .int x2, .ref (L.2.1 6 r0)]) hX (cv_De_init hBL (mm_l8 (n := L.1) hv_r0 hin3) (by omega) hf10) yw_De_init rfl wn_50 wt_51 hP hz hcs hsy hF (by omega) (by omega) rfl hl.1 (Nat.le_of_ble_eq_true rfl) (by decide) (by decide) d_Co_init_42 (fun H locs cells slots hP hz hcs hsy hle hF => ?_)
      obtain ⟨hin, h⟩ := mm_ix_some h
      refine mm_vaast (t := 3) (h := 6) (i := r0) (h' := 8) (i' := (12 * r0 + x2.toNatClampNeg)) hX hP hF hv_r0 (by omega) (hBL _ _ hv_r0) (fun _ => rfl) rfl (mm_l8 (n := L.1) hv_r0 hin3) (by omega) rfl rfl (fun w => mm_ffup (fun j => L.2.1 8 (12 * r0 + j)) w _) hin d_Co_init_45 (fun H locs hzz hP hF => ?_)
      obtain ⟨g12, e13, h⟩ := mm_let_ex h
      have hP : mm_V B L g12 H := by rw [e13]; exact hP
      replace hz : H.size = z8 := by omega
      clear hzz
      refine lv_iinc (k := 2) (v := (x2 + 1)) hx hb d_Co_init_46 hl rfl (congrArg (fun z => x2 + z) mm_i1) (Nat.lt_of_lt_of_le (Nat.lt_succ_self _) (Nat.le_of_ble_eq_true rfl)) rfl (fun ls hl => ?_)
      have hl : lv_has ls 3 [(2, .int (x2 + 1)), (0, .ref (L.2.1 5 r0)), (1, .int x1)] := hl
      refine lv_goto (tgt := 28) hx hb d_Co_init_49 rfl ?_
      exact ih _ _ _ _ _ _ _ _ _ _ _ h hP hF hz hcs hsy (lv_sub (l' := [(0, .ref (L.2.1 5 r0)), (1, .int x1), (2, .int (x2 + 1))]) hl [1, 2, 0] rfl) hv_r0 (by omega)
def v_Co_init (n : Nat) (ad : Nat → Nat → Nat) (zm ym : Nat) (g : mm_M) (z y : Nat) (r0 : Nat) (x1 : Int32) : Option (mm_M × Nat × Nat) :=
  mm_ln 200 200 (mm_al z (ad 7 r0) zm y 200 ym (mm_let (mm_row g 7 r0 (fun _ => 0)) (fun g3 => mm_let (mm_st g3 5 r0 1 1) (fun g5 => mm_let (mm_st g5 5 r0 3 (-1)) (fun g7 => mm_ln x1 n (mm_al (z + 1) (ad 6 r0) zm (y + 200) n ym (mm_let (mm_row g7 6 r0 (fun _ => 0)) (fun g11 => mm_let (mm_st g11 5 r0 0 1) (fun g13 => v_Co_init_l28 n ad zm ym 4096 g13 ((z + 1) + 1) ((y + 200) + n) r0 x1 0)))))))))
set_option maxRecDepth 100000 in
set_option maxHeartbeats 4000000 in
theorem wv_Co_init {p : Program} {l : Launch} {e : Env} {R : Room} {s : State} {m : MethodId} {args : Array Value} {below : List Frame} {meth : Method} {c : Code} {L : mm_L} {zm ym y0 B z' y' : Nat} {g' : mm_M} {g : mm_M} {z y : Nat} {r0 : Nat} {x1 : Int32} {H : Heap} {locs : List Loc} {ls : Array Slot} {cells slots : Nat} (hX : mm_Y L prog_2_method_1_code 3 "LoanArrows$Copy" 2 50 zm ym y0 B p l R s m meth c) (hBL : ∀ h i, mm_lv L.1 h i → B ≤ L.2.1 h i) (h : v_Co_init L.1 L.2.1 zm ym g z y r0 x1 = some (g', z', y')) (hP : mm_V B L g H) (hF : ∀ q ∈ locs, B ≤ q.base) (hz : H.size = z) (hcs : cells + s.heap.size = z) (hsy : slots + y0 = y) (hl : lv_has ls 3 [(0, .ref (L.2.1 5 r0)), (1, .int x1)]) (hv_r0 : mm_lv L.1 5 r0) (hlt0 : L.2.1 5 r0 < z) : W p l e R s m args below meth c H locs cells slots (mm_QV below L s B y0 g' z' y') (F0 m 0 ls []) := by
  have hX0 := hX
  obtain ⟨hx, hb, hml, hown, hr, hlk, hRf, hRl, hJ, hK, hin0, hB0, hRc, hRs, hA0, hNS⟩ := hX0
  unfold v_Co_init at h
  refine lv_aload_n hx hb d_Co_init_0 rfl (lv_at hl 0 rfl) ?_
  refine mm_vobj hX wt_46 wt_23 wt_24 hl.1 (by decide) (Nat.le_of_ble_eq_true rfl) d_Co_init_1 ?_
  refine lv_aload_n hx hb d_Co_init_4 rfl (lv_at hl 0 rfl) ?_
  refine lv_sipush (v := 200) hx hb d_Co_init_5 (by decide) ?_
  obtain ⟨hn2, hn2b, h⟩ := mm_ln_some h
  obtain ⟨ha1, ha1b, ha1c, h⟩ := mm_al_some h
  refine mm_vnewa (atype := .int) (ty := .int) (h := 7) (i := r0) (t := 0) (N := 200) hX hP hv_r0 (by omega) rfl (mm_ceI _ _) rfl rfl (fun q => q) wt_39 hn2 hn2b (by decide) (by omega) (by omega) d_Co_init_8 (fun H hzz hP => ?_)
  obtain ⟨g3, e4, h⟩ := mm_let_ex h
  have hP : mm_V B L g3 H := by rw [e4]; exact hP
  replace hz : H.size = z + 1 := by omega
  replace hcs := mm_pl 1 hcs
  replace hsy := mm_pl 200 hsy
  clear hzz ha1b ha1c
  refine mm_vput (h := 5) (i := r0) 1 1 hX hP hF hv_r0 (by omega) (hBL _ _ hv_r0) rfl rfl rfl uin_5 ty_5 tyok_5 nmok_5 (by decide) ⟨rfl, rfl, rfl⟩ (Or.inr ⟨rfl, rfl⟩) wt_82 rfl rfl rfl (Nat.le_of_ble_eq_true rfl) d_Co_init_10 (fun H locs hzz hP hF => ?_)
  obtain ⟨g5, e6, h⟩ := mm_let_ex h
  have hP : mm_V B L g5 H := by rw [e6]; exact hP
  replace hz : H.size = (z + 1) := by omega
  clear hzz
  refine lv_aload_n hx hb d_Co_init_13 rfl (lv_at hl 0 rfl) ?_
  refine lv_iconst (v := -1) hx hb d_Co_init_14 (by decide) ?_
  refine mm_vput (h := 5) (i := r0) 3 (-1) hX hP hF hv_r0 (by omega) (hBL _ _ hv_r0) rfl rfl rfl uin_5 ty_5 tyok_5 nmok_5 (by decide) ⟨rfl, rfl, rfl⟩ (Or.inl rfl) wt_84 rfl rfl rfl (Nat.le_of_ble_eq_true rfl) d_Co_init_15 (fun H locs hzz hP hF => ?_)
  obtain ⟨g7, e8, h⟩ := mm_let_ex h
  have hP : mm_V B L g7 H := by rw [e8]; exact hP
  replace hz : H.size = (z + 1) := by omega
  clear hzz
  refine lv_aload_n hx hb d_Co_init_18 rfl (lv_at hl 0 rfl) ?_
  refine lv_iload_n hx hb d_Co_init_19 rfl (lv_at hl 1 rfl) ?_
  obtain ⟨hn10, hn10b, h⟩ := mm_ln_some h
  obtain ⟨ha9, ha9b, ha9c, h⟩ := mm_al_some h
  refine mm_vnewq (h := 6) (i := r0) (t := 3) (N := L.1) hX hP hv_r0 (by omega) rfl rfl (by decide) wt_47 hn10 hn10b (by omega) (by omega) d_Co_init_20 (fun H hzz hP => ?_)
  obtain ⟨g11, e12, h⟩ := mm_let_ex h
  have hP : mm_V B L g11 H := by rw [e12]; exact hP
  replace hz : H.size = (z + 1) + 1 := by omega
  replace hcs := mm_pl 1 hcs
  replace hsy := mm_pl L.1 hsy
  clear hzz ha9b ha9c
  refine mm_vput (h := 5) (i := r0) 0 1 hX hP hF hv_r0 (by omega) (hBL _ _ hv_r0) rfl rfl rfl uin_5 ty_5 tyok_5 nmok_5 (by decide) ⟨rfl, rfl, rfl⟩ (Or.inr ⟨rfl, rfl⟩) wt_80 rfl rfl rfl (Nat.le_of_ble_eq_true rfl) d_Co_init_23 (fun H locs hzz hP hF => ?_)
  obtain ⟨g13, e14, h⟩ := mm_let_ex h
  have hP : mm_V B L g13 H := by rw [e14]; exact hP
  replace hz : H.size = ((z + 1) + 1) := by omega
  clear hzz
  refine lv_iconst (v := 0) hx hb d_Co_init_26 (by decide) ?_
  refine lv_istore_n hx hb d_Co_init_27 rfl hl (Nat.lt_of_lt_of_le (Nat.lt_succ_self _) (Nat.le_of_ble_eq_true rfl)) rfl (fun ls hl => ?_)
  have hl : lv_has ls 3 [(2, .int 0), (0, .ref (L.2.1 5 r0)), (1, .int x1)] := hl
  exact wv_Co_init_l28 hX hBL _ _ _ _ _ _ _ _ _ _ _ _ h hP hF hz hcs hsy (lv_sub (l' := [(0, .ref (L.2.1 5 r0)), (1, .int x1), (2, .int 0)]) hl [1, 2, 0] rfl) hv_r0 (by omega)
set_option maxRecDepth 100000 in
set_option maxHeartbeats 4000000 in
theorem cv_Co_init {l : Launch} {L : mm_L} {g g' : mm_M} {zm ym B z y z' y' : Nat} {r0 : Nat} {x1 : Int32} (hBL : ∀ h i, mm_lv L.1 h i → B ≤ L.2.1 h i) (hv_r0 : mm_lv L.1 5 r0) (hlt0 : L.2.1 5 r0 < z) (h : v_Co_init L.1 L.2.1 zm ym g z y r0 x1 = some (g', z', y')) : mm_CV l y_Co_init prog_2_method_1_code 3 2 50 zm ym B L [.ref (L.2.1 5 r0), .int x1] g z y g' z' y' := by
  intro p e R s m below meth c hX hP hz
  refine mm_enter (Nat.le_of_ble_eq_true rfl) fun ls hl => ?_
  exact wv_Co_init hX hBL h hP (fun q hq => by cases hq) hz (by omega) (by omega) (lv_sub (l' := [(0, .ref (L.2.1 5 r0)), (1, .int x1)]) hl [0, 1] rfl) hv_r0 hlt0
def v_Ma_init_l32 (n : Nat) (ad : Nat → Nat → Nat) (zm ym : Nat) : Nat → mm_M → Nat → Nat → Int32 → Option (mm_M × Nat × Nat)
  | 0, _, _, _, _ => none
  | k + 1, g, z, y, x4 => mm_nn (g 12 0 3) (mm_lt (ad 13 0) z ((if (Int32.ofNat (2 * n)) ≤ x4 then some (g, z, y) else mm_nn (g 12 0 3) (mm_lt (ad 13 0) z (mm_ix x4 (2 * n) (mm_al z (ad 14 x4.toNatClampNeg) zm y 5 ym (mm_let (mm_row g 14 x4.toNatClampNeg (fun _ => 0)) (fun g7 => mm_gd (z + 1) zm (y + 5) ym (mm_bv (v_Li_init n ad zm ym g7 (z + 1) (y + 5) x4.toNatClampNeg) (fun g9 z10 y11 => mm_ix x4 (2 * n) (mm_let (mm_st g9 13 0 x4.toNatClampNeg 1) (fun g14 => v_Ma_init_l32 n ad zm ym k g14 z10 y11 (x4 + 1)))))))))))))
set_option maxRecDepth 100000 in
set_option maxHeartbeats 4000000 in
theorem wv_Ma_init_l32 {p : Program} {l : Launch} {e : Env} {R : Room} {s : State} {m : MethodId} {args : Array Value} {below : List Frame} {meth : Method} {c : Code} {L : mm_L} {zm ym y0 B z' y' : Nat} {g' : mm_M} (hX : mm_Y L prog_5_method_1_code 5 "LoanArrows$Mail" 2 50 zm ym y0 B p l R s m meth c) (hBL : ∀ h i, mm_lv L.1 h i → B ≤ L.2.1 h i) : ∀ (k : Nat) (g : mm_M) (z y : Nat) (x4 : Int32) (H : Heap) (locs : List Loc) (ls : Array Slot) (cells slots : Nat), v_Ma_init_l32 L.1 L.2.1 zm ym k g z y x4 = some (g', z', y') → mm_V B L g H → (∀ q ∈ locs, B ≤ q.base) → H.size = z → cells + s.heap.size = z → slots + y0 = y → lv_has ls 5 [(0, .ref (L.2.1 12 0)), (4, .int x4)] → L.2.1 12 0 < z → W p l e R s m args below meth c H locs cells slots (mm_QV below L s B y0 g' z' y') (F0 m 32 ls []) := by
  have hX0 := hX
  obtain ⟨hx, hb, hml, hown, hr, hlk, hRf, hRl, hJ, hK, hin0, hB0, hRc, hRs, hA0, hNS⟩ := hX0
  intro k
  induction k with
  | zero =>
    intro g z y x4 H locs ls cells slots h hP hF hz hcs hsy hl hlt0
    rw [v_Ma_init_l32] at h
    cases h
  | succ k ih =>
    intro g z y x4 H locs ls cells slots h hP hF hz hcs hsy hl hlt0
    rw [v_Ma_init_l32] at h
    refine lv_iload hx hb d_Ma_init_32 (lv_at hl 1 rfl) ?_
    refine lv_aload_n hx hb d_Ma_init_34 rfl (lv_at hl 0 rfl) ?_
    obtain ⟨hne1, h⟩ := mm_nn_some h
    obtain ⟨hl2, h⟩ := mm_lt_some h
    refine mm_vgetR (h := 12) (i := 0) 3 hX hP mm_ls12 (by omega) rfl rfl uin_12 (by decide) ⟨rfl, rfl, rfl⟩ wt_146 rfl hne1 d_Ma_init_35 ?_
    refine mm_valen (t := 4) (h := 13) (i := 0) hX hP mm_ls13 (by omega) rfl rfl rfl d_Ma_init_38 ?_
    refine lv_icmp_ge (tgt := 62) hx hb d_Ma_init_39 rfl (fun hc => ?_) (fun hc => ?_)
    · have h := mm_pos hc h
      cases h
      exact mm_vvret hX hP hF hz hcs hsy d_Ma_init_62
    · have h := mm_neg hc h
      refine lv_aload_n hx hb d_Ma_init_42 rfl (lv_at hl 0 rfl) ?_
      obtain ⟨hne3, h⟩ := mm_nn_some h
      obtain ⟨hl4, h⟩ := mm_lt_some h
      refine mm_vgetR (h := 12) (i := 0) 3 hX hP mm_ls12 (by omega) rfl rfl uin_12 (by decide) ⟨rfl, rfl, rfl⟩ wt_146 rfl hne3 d_Ma_init_43 ?_
      refine lv_iload hx hb d_Ma_init_46 (lv_at hl 1 rfl) ?_
      obtain ⟨hin5, h⟩ := mm_ix_some h
      obtain ⟨ha6, ha6b, ha6c, h⟩ := mm_al_some h
      refine mm_vnew (h := 14) (i := x4.toNatClampNeg) ty_14 hX hP (mm_l14 (n := L.1) hin5) (by omega) rfl rfl uin_14 tyok_14 (fun j hj => by match j, hj with
          | 0, _ => rfl
          | 1, _ => rfl
          | 2, _ => rfl
          | 3, _ => rfl
          | 4, _ => rfl
          | j + 5, hj => exact absurd hj (by omega)) wt_119 wt_121 wt_7 (by omega) (by omega) d_Ma_init_48 (fun H hzz hP => ?_)
      obtain ⟨g7, e8, h⟩ := mm_let_ex h
      have hP : mm_V B L g7 H := by rw [e8]; exact hP
      replace hz : H.size = z + 1 := by omega
      replace hcs := mm_pl 1 hcs
      replace hsy := mm_pl 5 hsy
      clear hzz ha6b ha6c
      refine lv_dup hx hb d_Ma_init_51 rfl ?_
      obtain ⟨hg13, hg13b, h⟩ := mm_gd_some h
      obtain ⟨g9, z10, y11, hf12, h⟩ := mm_bv_some h
      refine mm_vIN (As := []) (rest := [.ref (L.2.1 14 x4.toNatClampNeg), .int x4, .ref (L.2.1 13 0)]) hX (cv_Li_init hBL (mm_l14 (n := L.1) hin5) (by omega) hf12) yw_Li_init rfl wn_122 wt_123 hP hz hcs hsy hF (by omega) (by omega) rfl hl.1 (Nat.le_of_ble_eq_true rfl) (by decide) (by decide) d_Ma_init_52 (fun H locs cells slots hP hz hcs hsy hle hF => ?_)
      obtain ⟨hin, h⟩ := mm_ix_some h
      refine mm_vaast (t := 4) (h := 13) (i := 0) (h' := 14) (i' := x4.toNatClampNeg) hX hP hF mm_ls13 (by omega) (hBL _ _ mm_ls13) (fun _ => rfl) rfl (mm_l14 (n := L.1) hin5) (by omega) rfl rfl (fun w => mm_ffup (fun j => L.2.1 14 j) w _) hin d_Ma_init_55 (fun H locs hzz hP hF => ?_)
      obtain ⟨g14, e15, h⟩ := mm_let_ex h
      have hP : mm_V B L g14 H := by rw [e15]; exact hP
      replace hz : H.size = z10 := by omega
      clear hzz
      refine lv_iinc (k := 1) (v := (x4 + 1)) hx hb d_Ma_init_56 hl rfl (congrArg (fun z => x4 + z) mm_i1) (Nat.lt_of_lt_of_le (Nat.lt_succ_self _) (Nat.le_of_ble_eq_true rfl)) rfl (fun ls hl => ?_)
      have hl : lv_has ls 5 [(4, .int (x4 + 1)), (0, .ref (L.2.1 12 0))] := hl
      refine lv_goto (tgt := 32) hx hb d_Ma_init_59 rfl ?_
      exact ih _ _ _ _ _ _ _ _ _ h hP hF hz hcs hsy (lv_sub (l' := [(0, .ref (L.2.1 12 0)), (4, .int (x4 + 1))]) hl [1, 0] rfl) (by omega)
def v_Ma_init (n : Nat) (ad : Nat → Nat → Nat) (zm ym : Nat) (g : mm_M) (z y : Nat) (x1 : Int32) : Option (mm_M × Nat × Nat) :=
  mm_let (mm_st g 12 0 0 x1) (fun g1 => mm_let (mm_st g1 12 0 1 1) (fun g3 => mm_let (mm_st g3 12 0 2 1) (fun g5 => mm_ln (2 * x1) (2 * n) (mm_al z (ad 13 0) zm y (2 * n) ym (mm_let (mm_row g5 13 0 (fun _ => 0)) (fun g9 => mm_let (mm_st g9 12 0 3 1) (fun g11 => v_Ma_init_l32 n ad zm ym 4096 g11 (z + 1) (y + (2 * n)) 0)))))))
set_option maxRecDepth 100000 in
set_option maxHeartbeats 4000000 in
theorem wv_Ma_init {p : Program} {l : Launch} {e : Env} {R : Room} {s : State} {m : MethodId} {args : Array Value} {below : List Frame} {meth : Method} {c : Code} {L : mm_L} {zm ym y0 B z' y' : Nat} {g' : mm_M} {g : mm_M} {z y : Nat} {x1 : Int32} {H : Heap} {locs : List Loc} {ls : Array Slot} {cells slots : Nat} (hX : mm_Y L prog_5_method_1_code 5 "LoanArrows$Mail" 2 50 zm ym y0 B p l R s m meth c) (hBL : ∀ h i, mm_lv L.1 h i → B ≤ L.2.1 h i) (h : v_Ma_init L.1 L.2.1 zm ym g z y x1 = some (g', z', y')) (hP : mm_V B L g H) (hF : ∀ q ∈ locs, B ≤ q.base) (hz : H.size = z) (hcs : cells + s.heap.size = z) (hsy : slots + y0 = y) (hl : lv_has ls 5 [(0, .ref (L.2.1 12 0)), (1, .int x1), (2, .ref (L.2.1 2 0)), (3, .ref (L.2.1 10 0))]) (hlt0 : L.2.1 12 0 < z) (hlt1 : L.2.1 2 0 < z) (hlt2 : L.2.1 10 0 < z) : W p l e R s m args below meth c H locs cells slots (mm_QV below L s B y0 g' z' y') (F0 m 0 ls []) := by
  have hX0 := hX
  obtain ⟨hx, hb, hml, hown, hr, hlk, hRf, hRl, hJ, hK, hin0, hB0, hRc, hRs, hA0, hNS⟩ := hX0
  unfold v_Ma_init at h
  refine lv_aload_n hx hb d_Ma_init_0 rfl (lv_at hl 0 rfl) ?_
  refine mm_vobj hX wt_118 wt_23 wt_24 hl.1 (by decide) (Nat.le_of_ble_eq_true rfl) d_Ma_init_1 ?_
  refine lv_aload_n hx hb d_Ma_init_4 rfl (lv_at hl 0 rfl) ?_
  refine lv_iload_n hx hb d_Ma_init_5 rfl (lv_at hl 1 rfl) ?_
  refine mm_vput (h := 12) (i := 0) 0 x1 hX hP hF mm_ls12 (by omega) (hBL _ _ mm_ls12) rfl rfl rfl uin_12 ty_12 tyok_12 nmok_12 (by decide) ⟨rfl, rfl, rfl⟩ (Or.inr ⟨rfl, rfl⟩) wt_143 rfl rfl rfl (Nat.le_of_ble_eq_true rfl) d_Ma_init_6 (fun H locs hzz hP hF => ?_)
  obtain ⟨g1, e2, h⟩ := mm_let_ex h
  have hP : mm_V B L g1 H := by rw [e2]; exact hP
  replace hz : H.size = z := by omega
  clear hzz
  refine lv_aload_n hx hb d_Ma_init_9 rfl (lv_at hl 0 rfl) ?_
  refine lv_aload_n hx hb d_Ma_init_10 rfl (lv_at hl 2 rfl) ?_
  refine mm_vput (h := 12) (i := 0) 1 1 hX hP hF mm_ls12 (by omega) (hBL _ _ mm_ls12) rfl rfl rfl uin_12 ty_12 tyok_12 nmok_12 (by decide) ⟨rfl, rfl, rfl⟩ (Or.inr ⟨rfl, rfl⟩) wt_144 rfl rfl rfl (Nat.le_of_ble_eq_true rfl) d_Ma_init_11 (fun H locs hzz hP hF => ?_)
  obtain ⟨g3, e4, h⟩ := mm_let_ex h
  have hP : mm_V B L g3 H := by rw [e4]; exact hP
  replace hz : H.size = z := by omega
  clear hzz
  refine lv_aload_n hx hb d_Ma_init_14 rfl (lv_at hl 0 rfl) ?_
  refine lv_aload_n hx hb d_Ma_init_15 rfl (lv_at hl 3 rfl) ?_
  refine mm_vput (h := 12) (i := 0) 2 1 hX hP hF mm_ls12 (by omega) (hBL _ _ mm_ls12) rfl rfl rfl uin_12 ty_12 tyok_12 nmok_12 (by decide) ⟨rfl, rfl, rfl⟩ (Or.inr ⟨rfl, rfl⟩) wt_145 rfl rfl rfl (Nat.le_of_ble_eq_true rfl) d_Ma_init_16 (fun H locs hzz hP hF => ?_)
  obtain ⟨g5, e6, h⟩ := mm_let_ex h
  have hP : mm_V B L g5 H := by rw [e6]; exact hP
  replace hz : H.size = z := by omega
  clear hzz
  refine lv_aload_n hx hb d_Ma_init_19 rfl (lv_at hl 0 rfl) ?_
  refine lv_iconst (v := 2) hx hb d_Ma_init_20 (by decide) ?_
  refine lv_iload_n hx hb d_Ma_init_21 rfl (lv_at hl 1 rfl) ?_
  refine lv_imul hx hb d_Ma_init_22 ?_
  obtain ⟨hn8, hn8b, h⟩ := mm_ln_some h
  obtain ⟨ha7, ha7b, ha7c, h⟩ := mm_al_some h
  refine mm_vnewq (h := 13) (i := 0) (t := 4) (N := (2 * L.1)) hX hP mm_ls13 (by omega) rfl rfl (by decide) wt_119 hn8 hn8b (by omega) (by omega) d_Ma_init_23 (fun H hzz hP => ?_)
  obtain ⟨g9, e10, h⟩ := mm_let_ex h
  have hP : mm_V B L g9 H := by rw [e10]; exact hP
  replace hz : H.size = z + 1 := by omega
  replace hcs := mm_pl 1 hcs
  replace hsy := mm_pl (2 * L.1) hsy
  clear hzz ha7b ha7c
  refine mm_vput (h := 12) (i := 0) 3 1 hX hP hF mm_ls12 (by omega) (hBL _ _ mm_ls12) rfl rfl rfl uin_12 ty_12 tyok_12 nmok_12 (by decide) ⟨rfl, rfl, rfl⟩ (Or.inr ⟨rfl, rfl⟩) wt_146 rfl rfl rfl (Nat.le_of_ble_eq_true rfl) d_Ma_init_26 (fun H locs hzz hP hF => ?_)
  obtain ⟨g11, e12, h⟩ := mm_let_ex h
  have hP : mm_V B L g11 H := by rw [e12]; exact hP
  replace hz : H.size = (z + 1) := by omega
  clear hzz
  refine lv_iconst (v := 0) hx hb d_Ma_init_29 (by decide) ?_
  refine lv_istore hx hb d_Ma_init_30 hl (Nat.lt_of_lt_of_le (Nat.lt_succ_self _) (Nat.le_of_ble_eq_true rfl)) rfl (fun ls hl => ?_)
  have hl : lv_has ls 5 [(4, .int 0), (0, .ref (L.2.1 12 0)), (1, .int x1), (2, .ref (L.2.1 2 0)), (3, .ref (L.2.1 10 0))] := hl
  exact wv_Ma_init_l32 hX hBL _ _ _ _ _ _ _ _ _ _ h hP hF hz hcs hsy (lv_sub (l' := [(0, .ref (L.2.1 12 0)), (4, .int 0)]) hl [1, 0] rfl) (by omega)
set_option maxRecDepth 100000 in
set_option maxHeartbeats 4000000 in
theorem cv_Ma_init {l : Launch} {L : mm_L} {g g' : mm_M} {zm ym B z y z' y' : Nat} {x1 : Int32} (hBL : ∀ h i, mm_lv L.1 h i → B ≤ L.2.1 h i) (hlt0 : L.2.1 12 0 < z) (hlt1 : L.2.1 2 0 < z) (hlt2 : L.2.1 10 0 < z) (h : v_Ma_init L.1 L.2.1 zm ym g z y x1 = some (g', z', y')) : mm_CV l y_Ma_init prog_5_method_1_code 5 2 50 zm ym B L [.ref (L.2.1 12 0), .int x1, .ref (L.2.1 2 0), .ref (L.2.1 10 0)] g z y g' z' y' := by
  intro p e R s m below meth c hX hP hz
  refine mm_enter (Nat.le_of_ble_eq_true rfl) fun ls hl => ?_
  exact wv_Ma_init hX hBL h hP (fun q hq => by cases hq) hz (by omega) (by omega) (lv_sub (l' := [(0, .ref (L.2.1 12 0)), (1, .int x1), (2, .ref (L.2.1 2 0)), (3, .ref (L.2.1 10 0))]) hl [0, 1, 2, 3] rfl) hlt0 hlt1 hlt2
def v_LA_init_l74 (n : Nat) (ad : Nat → Nat → Nat) (zm ym : Nat) : Nat → mm_M → Nat → Nat → Int32 → Option (mm_M × Nat × Nat)
  | 0, _, _, _, _ => none
  | k + 1, g, z, y, x3 => (if 3 ≤ x3 then mm_al z (ad 10 0) zm y 2 ym (mm_let (mm_row g 10 0 (fun _ => 0)) (fun g2 => mm_gd (z + 1) zm (y + 2) ym (mm_bv (v_Po_init n ad zm ym g2 (z + 1) (y + 2)) (fun g4 z5 y6 => mm_let (mm_st g4 0 0 4 1) (fun g9 => mm_al z5 (ad 12 0) zm y6 4 ym (mm_let (mm_row g9 12 0 (fun _ => 0)) (fun g12 => mm_nn (g12 0 0 2) (mm_lt (ad 2 0) (z5 + 1) (mm_nn (g12 0 0 4) (mm_lt (ad 10 0) (z5 + 1) (mm_gd (z5 + 1) zm (y6 + 4) ym (mm_bv (v_Ma_init n ad zm ym g12 (z5 + 1) (y6 + 4) (g12 0 0 0)) (fun g18 z19 y20 => mm_let (mm_st g18 0 0 5 1) (fun g23 => some (g23, z19, y20))))))))))))))) else mm_nn (g 0 0 3) (mm_lt (ad 4 0) z (mm_ix x3 3 (mm_al z (ad 5 x3.toNatClampNeg) zm y 5 ym (mm_let (mm_row g 5 x3.toNatClampNeg (fun _ => 0)) (fun g29 => mm_gd (z + 1) zm (y + 5) ym (mm_bv (v_Co_init n ad zm ym g29 (z + 1) (y + 5) x3.toNatClampNeg (g29 0 0 0)) (fun g31 z32 y33 => mm_ix x3 3 (mm_let (mm_st g31 4 0 x3.toNatClampNeg 1) (fun g36 => v_LA_init_l74 n ad zm ym k g36 z32 y33 (x3 + 1)))))))))))
set_option maxRecDepth 100000 in
set_option maxHeartbeats 4000000 in
theorem wv_LA_init_l74 {p : Program} {l : Launch} {e : Env} {R : Room} {s : State} {m : MethodId} {args : Array Value} {below : List Frame} {meth : Method} {c : Code} {L : mm_L} {zm ym y0 B z' y' : Nat} {g' : mm_M} (hX : mm_Y L prog_1_method_1_code 4 "LoanArrows" 3 74 zm ym y0 B p l R s m meth c) (hBL : ∀ h i, mm_lv L.1 h i → B ≤ L.2.1 h i) : ∀ (k : Nat) (g : mm_M) (z y : Nat) (x3 : Int32) (H : Heap) (locs : List Loc) (ls : Array Slot) (cells slots : Nat), v_LA_init_l74 L.1 L.2.1 zm ym k g z y x3 = some (g', z', y') → mm_V B L g H → (∀ q ∈ locs, B ≤ q.base) → H.size = z → cells + s.heap.size = z → slots + y0 = y → lv_has ls 4 [(0, .ref (L.2.1 0 0)), (3, .int x3)] → L.2.1 0 0 < z → W p l e R s m args below meth c H locs cells slots (mm_QV below L s B y0 g' z' y') (F0 m 74 ls []) := by
  have hX0 := hX
  obtain ⟨hx, hb, hml, hown, hr, hlk, hRf, hRl, hJ, hK, hin0, hB0, hRc, hRs, hA0, hNS⟩ := hX0
  intro k
  induction k with
  | zero =>
    intro g z y x3 H locs ls cells slots h hP hF hz hcs hsy hl hlt0
    rw [v_LA_init_l74] at h
    cases h
  | succ k ih =>
    intro g z y x3 H locs ls cells slots h hP hF hz hcs hsy hl hlt0
    rw [v_LA_init_l74] at h
    refine lv_iload_n hx hb d_LA_init_74 rfl (lv_at hl 1 rfl) ?_
    refine lv_iconst (v := 3) hx hb d_LA_init_75 (by decide) ?_
    refine lv_icmp_ge (tgt := 102) hx hb d_LA_init_76 rfl (fun hc => ?_) (fun hc => ?_)
    · have h := mm_pos hc h
      refine lv_aload_n hx hb d_LA_init_102 rfl (lv_at hl 0 rfl) ?_
      obtain ⟨ha1, ha1b, ha1c, h⟩ := mm_al_some h
      refine mm_vnew (h := 10) (i := 0) ty_10 hX hP mm_ls10 (by omega) rfl rfl uin_10 tyok_10 (fun j hj => by match j, hj with
          | 0, _ => rfl
          | 1, _ => rfl
          | j + 2, hj => exact absurd hj (by omega)) wt_99 wt_100 wt_5 (by omega) (by omega) d_LA_init_103 (fun H hzz hP => ?_)
      obtain ⟨g2, e3, h⟩ := mm_let_ex h
      have hP : mm_V B L g2 H := by rw [e3]; exact hP
      replace hz : H.size = z + 1 := by omega
      replace hcs := mm_pl 1 hcs
      replace hsy := mm_pl 2 hsy
      clear hzz ha1b ha1c
      refine lv_dup hx hb d_LA_init_106 rfl ?_
      obtain ⟨hg8, hg8b, h⟩ := mm_gd_some h
      obtain ⟨g4, z5, y6, hf7, h⟩ := mm_bv_some h
      refine mm_vIN (As := []) (rest := [.ref (L.2.1 10 0), .ref (L.2.1 0 0)]) hX (cv_Po_init hBL (by omega) hf7) yw_Po_init rfl wn_101 wt_102 hP hz hcs hsy hF (by omega) (by omega) rfl hl.1 (Nat.le_of_ble_eq_true rfl) (by decide) (by decide) d_LA_init_107 (fun H locs cells slots hP hz hcs hsy hle hF => ?_)
      refine mm_vput (h := 0) (i := 0) 4 1 hX hP hF mm_ls0 (by omega) (hBL _ _ mm_ls0) rfl rfl rfl uin_0 ty_0 tyok_0 nmok_0 (by decide) ⟨rfl, rfl, rfl⟩ (Or.inr ⟨rfl, rfl⟩) wt_160 rfl rfl rfl (Nat.le_of_ble_eq_true rfl) d_LA_init_110 (fun H locs hzz hP hF => ?_)
      obtain ⟨g9, e10, h⟩ := mm_let_ex h
      have hP : mm_V B L g9 H := by rw [e10]; exact hP
      replace hz : H.size = z5 := by omega
      clear hzz
      refine lv_aload_n hx hb d_LA_init_113 rfl (lv_at hl 0 rfl) ?_
      obtain ⟨ha11, ha11b, ha11c, h⟩ := mm_al_some h
      refine mm_vnew (h := 12) (i := 0) ty_12 hX hP mm_ls12 (by omega) rfl rfl uin_12 tyok_12 (fun j hj => by match j, hj with
          | 0, _ => rfl
          | 1, _ => rfl
          | 2, _ => rfl
          | 3, _ => rfl
          | j + 4, hj => exact absurd hj (by omega)) wt_113 wt_114 wt_6 (by omega) (by omega) d_LA_init_114 (fun H hzz hP => ?_)
      obtain ⟨g12, e13, h⟩ := mm_let_ex h
      have hP : mm_V B L g12 H := by rw [e13]; exact hP
      replace hz : H.size = z5 + 1 := by omega
      replace hcs := mm_pl 1 hcs
      replace hsy := mm_pl 4 hsy
      clear hzz ha11b ha11c
      refine lv_dup hx hb d_LA_init_117 rfl ?_
      refine lv_aload_n hx hb d_LA_init_118 rfl (lv_at hl 0 rfl) ?_
      refine mm_vget (h := 0) (i := 0) 0 hX hP mm_ls0 (by omega) rfl rfl uin_0 (by decide) ⟨rfl, rfl, rfl⟩ wt_156 rfl d_LA_init_119 ?_
      refine lv_aload_n hx hb d_LA_init_122 rfl (lv_at hl 0 rfl) ?_
      obtain ⟨hne14, h⟩ := mm_nn_some h
      obtain ⟨hl15, h⟩ := mm_lt_some h
      refine mm_vgetR (h := 0) (i := 0) 2 hX hP mm_ls0 (by omega) rfl rfl uin_0 (by decide) ⟨rfl, rfl, rfl⟩ wt_158 rfl hne14 d_LA_init_123 ?_
      refine lv_aload_n hx hb d_LA_init_126 rfl (lv_at hl 0 rfl) ?_
      obtain ⟨hne16, h⟩ := mm_nn_some h
      obtain ⟨hl17, h⟩ := mm_lt_some h
      refine mm_vgetR (h := 0) (i := 0) 4 hX hP mm_ls0 (by omega) rfl rfl uin_0 (by decide) ⟨rfl, rfl, rfl⟩ wt_160 rfl hne16 d_LA_init_127 ?_
      obtain ⟨hg22, hg22b, h⟩ := mm_gd_some h
      obtain ⟨g18, z19, y20, hf21, h⟩ := mm_bv_some h
      refine mm_vI (As := [.int (g12 0 0 0), .ref (L.2.1 2 0), .ref (L.2.1 10 0)]) (rest := [.ref (L.2.1 12 0), .ref (L.2.1 0 0)]) hX (cv_Ma_init hBL (by omega) (by omega) (by omega) hf21) yw_Ma_init rfl wt_115 wt_116 hP hz hcs hsy hF (by omega) (by omega) rfl hl.1 (Nat.le_of_ble_eq_true rfl) (by decide) (by decide) d_LA_init_130 (fun H locs cells slots hP hz hcs hsy hle hF => ?_)
      refine mm_vput (h := 0) (i := 0) 5 1 hX hP hF mm_ls0 (by omega) (hBL _ _ mm_ls0) rfl rfl rfl uin_0 ty_0 tyok_0 nmok_0 (by decide) ⟨rfl, rfl, rfl⟩ (Or.inr ⟨rfl, rfl⟩) wt_161 rfl rfl rfl (Nat.le_of_ble_eq_true rfl) d_LA_init_133 (fun H locs hzz hP hF => ?_)
      obtain ⟨g23, e24, h⟩ := mm_let_ex h
      have hP : mm_V B L g23 H := by rw [e24]; exact hP
      replace hz : H.size = z19 := by omega
      clear hzz
      cases h
      exact mm_vvret hX hP hF hz hcs hsy d_LA_init_136
    · have h := mm_neg hc h
      refine lv_aload_n hx hb d_LA_init_79 rfl (lv_at hl 0 rfl) ?_
      obtain ⟨hne25, h⟩ := mm_nn_some h
      obtain ⟨hl26, h⟩ := mm_lt_some h
      refine mm_vgetR (h := 0) (i := 0) 3 hX hP mm_ls0 (by omega) rfl rfl uin_0 (by decide) ⟨rfl, rfl, rfl⟩ wt_159 rfl hne25 d_LA_init_80 ?_
      refine lv_iload_n hx hb d_LA_init_83 rfl (lv_at hl 1 rfl) ?_
      obtain ⟨hin27, h⟩ := mm_ix_some h
      obtain ⟨ha28, ha28b, ha28c, h⟩ := mm_al_some h
      refine mm_vnew (h := 5) (i := x3.toNatClampNeg) ty_5 hX hP (mm_l5 (n := L.1) hin27) (by omega) rfl rfl uin_5 tyok_5 (fun j hj => by match j, hj with
          | 0, _ => rfl
          | 1, _ => rfl
          | 2, _ => rfl
          | 3, _ => rfl
          | 4, _ => rfl
          | j + 5, hj => exact absurd hj (by omega)) wt_40 wt_42 wt_3 (by omega) (by omega) d_LA_init_84 (fun H hzz hP => ?_)
      obtain ⟨g29, e30, h⟩ := mm_let_ex h
      have hP : mm_V B L g29 H := by rw [e30]; exact hP
      replace hz : H.size = z + 1 := by omega
      replace hcs := mm_pl 1 hcs
      replace hsy := mm_pl 5 hsy
      clear hzz ha28b ha28c
      refine lv_dup hx hb d_LA_init_87 rfl ?_
      refine lv_aload_n hx hb d_LA_init_88 rfl (lv_at hl 0 rfl) ?_
      refine mm_vget (h := 0) (i := 0) 0 hX hP mm_ls0 (by omega) rfl rfl uin_0 (by decide) ⟨rfl, rfl, rfl⟩ wt_156 rfl d_LA_init_89 ?_
      obtain ⟨hg35, hg35b, h⟩ := mm_gd_some h
      obtain ⟨g31, z32, y33, hf34, h⟩ := mm_bv_some h
      refine mm_vI (As := [.int (g29 0 0 0)]) (rest := [.ref (L.2.1 5 x3.toNatClampNeg), .int x3, .ref (L.2.1 4 0)]) hX (cv_Co_init hBL (mm_l5 (n := L.1) hin27) (by omega) hf34) yw_Co_init rfl wt_43 wt_44 hP hz hcs hsy hF (by omega) (by omega) rfl hl.1 (Nat.le_of_ble_eq_true rfl) (by decide) (by decide) d_LA_init_92 (fun H locs cells slots hP hz hcs hsy hle hF => ?_)
      obtain ⟨hin, h⟩ := mm_ix_some h
      refine mm_vaast (t := 2) (h := 4) (i := 0) (h' := 5) (i' := x3.toNatClampNeg) hX hP hF mm_ls4 (by omega) (hBL _ _ mm_ls4) (fun _ => rfl) rfl (mm_l5 (n := L.1) hin27) (by omega) rfl rfl (fun w => mm_ffup (fun j => L.2.1 5 j) w _) hin d_LA_init_95 (fun H locs hzz hP hF => ?_)
      obtain ⟨g36, e37, h⟩ := mm_let_ex h
      have hP : mm_V B L g36 H := by rw [e37]; exact hP
      replace hz : H.size = z32 := by omega
      clear hzz
      refine lv_iinc (k := 1) (v := (x3 + 1)) hx hb d_LA_init_96 hl rfl (congrArg (fun z => x3 + z) mm_i1) (Nat.lt_of_lt_of_le (Nat.lt_succ_self _) (Nat.le_of_ble_eq_true rfl)) rfl (fun ls hl => ?_)
      have hl : lv_has ls 4 [(3, .int (x3 + 1)), (0, .ref (L.2.1 0 0))] := hl
      refine lv_goto (tgt := 74) hx hb d_LA_init_99 rfl ?_
      exact ih _ _ _ _ _ _ _ _ _ h hP hF hz hcs hsy (lv_sub (l' := [(0, .ref (L.2.1 0 0)), (3, .int (x3 + 1))]) hl [1, 0] rfl) (by omega)
def v_LA_init_b58 (n : Nat) (ad : Nat → Nat → Nat) (zm ym : Nat) (g : mm_M) (z y : Nat) (t3 : Int32) (t4 : Int32) : Option (mm_M × Nat × Nat) :=
  mm_gd z zm y ym (mm_bv (v_Tr_init n ad zm ym g z y t3 t4) (fun g1 z2 y3 => mm_let (mm_st g1 0 0 2 1) (fun g6 => mm_ln 3 3 (mm_al z2 (ad 4 0) zm y3 3 ym (mm_let (mm_row g6 4 0 (fun _ => 0)) (fun g10 => mm_let (mm_st g10 0 0 3 1) (fun g12 => v_LA_init_l74 n ad zm ym 4096 g12 (z2 + 1) (y3 + 3) 0)))))))
set_option maxRecDepth 100000 in
set_option maxHeartbeats 4000000 in
theorem wv_LA_init_b58 {p : Program} {l : Launch} {e : Env} {R : Room} {s : State} {m : MethodId} {args : Array Value} {below : List Frame} {meth : Method} {c : Code} {L : mm_L} {zm ym y0 B z' y' : Nat} {g' : mm_M} {g : mm_M} {z y : Nat} {t3 : Int32} {t4 : Int32} {H : Heap} {locs : List Loc} {ls : Array Slot} {cells slots : Nat} (hX : mm_Y L prog_1_method_1_code 4 "LoanArrows" 3 74 zm ym y0 B p l R s m meth c) (hBL : ∀ h i, mm_lv L.1 h i → B ≤ L.2.1 h i) (h : v_LA_init_b58 L.1 L.2.1 zm ym g z y t3 t4 = some (g', z', y')) (hP : mm_V B L g H) (hF : ∀ q ∈ locs, B ≤ q.base) (hz : H.size = z) (hcs : cells + s.heap.size = z) (hsy : slots + y0 = y) (hl : lv_has ls 4 [(0, .ref (L.2.1 0 0))]) (hlt0 : L.2.1 0 0 < z) (hlt1 : L.2.1 2 0 < z) : W p l e R s m args below meth c H locs cells slots (mm_QV below L s B y0 g' z' y') (F0 m 58 ls [.int t4, .int t3, .ref (L.2.1 2 0), .ref (L.2.1 2 0), .ref (L.2.1 0 0)]) := by
  have hX0 := hX
  obtain ⟨hx, hb, hml, hown, hr, hlk, hRf, hRl, hJ, hK, hin0, hB0, hRc, hRs, hA0, hNS⟩ := hX0
  unfold v_LA_init_b58 at h
  obtain ⟨hg5, hg5b, h⟩ := mm_gd_some h
  obtain ⟨g1, z2, y3, hf4, h⟩ := mm_bv_some h
  refine mm_vI (As := [.int t3, .int t4]) (rest := [.ref (L.2.1 2 0), .ref (L.2.1 0 0)]) hX (cv_Tr_init hBL (by omega) hf4) yw_Tr_init rfl wt_27 wt_28 hP hz hcs hsy hF (by omega) (by omega) rfl hl.1 (Nat.le_of_ble_eq_true rfl) (by decide) (by decide) d_LA_init_58 (fun H locs cells slots hP hz hcs hsy hle hF => ?_)
  refine mm_vput (h := 0) (i := 0) 2 1 hX hP hF mm_ls0 (by omega) (hBL _ _ mm_ls0) rfl rfl rfl uin_0 ty_0 tyok_0 nmok_0 (by decide) ⟨rfl, rfl, rfl⟩ (Or.inr ⟨rfl, rfl⟩) wt_158 rfl rfl rfl (Nat.le_of_ble_eq_true rfl) d_LA_init_61 (fun H locs hzz hP hF => ?_)
  obtain ⟨g6, e7, h⟩ := mm_let_ex h
  have hP : mm_V B L g6 H := by rw [e7]; exact hP
  replace hz : H.size = z2 := by omega
  clear hzz
  refine lv_aload_n hx hb d_LA_init_64 rfl (lv_at hl 0 rfl) ?_
  refine lv_iconst (v := 3) hx hb d_LA_init_65 (by decide) ?_
  obtain ⟨hn9, hn9b, h⟩ := mm_ln_some h
  obtain ⟨ha8, ha8b, ha8c, h⟩ := mm_al_some h
  refine mm_vnewq (h := 4) (i := 0) (t := 2) (N := 3) hX hP mm_ls4 (by omega) rfl rfl (by decide) wt_40 hn9 hn9b (by omega) (by omega) d_LA_init_66 (fun H hzz hP => ?_)
  obtain ⟨g10, e11, h⟩ := mm_let_ex h
  have hP : mm_V B L g10 H := by rw [e11]; exact hP
  replace hz : H.size = z2 + 1 := by omega
  replace hcs := mm_pl 1 hcs
  replace hsy := mm_pl 3 hsy
  clear hzz ha8b ha8c
  refine mm_vput (h := 0) (i := 0) 3 1 hX hP hF mm_ls0 (by omega) (hBL _ _ mm_ls0) rfl rfl rfl uin_0 ty_0 tyok_0 nmok_0 (by decide) ⟨rfl, rfl, rfl⟩ (Or.inr ⟨rfl, rfl⟩) wt_159 rfl rfl rfl (Nat.le_of_ble_eq_true rfl) d_LA_init_69 (fun H locs hzz hP hF => ?_)
  obtain ⟨g12, e13, h⟩ := mm_let_ex h
  have hP : mm_V B L g12 H := by rw [e13]; exact hP
  replace hz : H.size = (z2 + 1) := by omega
  clear hzz
  refine lv_iconst (v := 0) hx hb d_LA_init_72 (by decide) ?_
  refine lv_istore_n hx hb d_LA_init_73 rfl hl (Nat.lt_of_lt_of_le (Nat.lt_succ_self _) (Nat.le_of_ble_eq_true rfl)) rfl (fun ls hl => ?_)
  have hl : lv_has ls 4 [(3, .int 0), (0, .ref (L.2.1 0 0))] := hl
  exact wv_LA_init_l74 hX hBL _ _ _ _ _ _ _ _ _ _ h hP hF hz hcs hsy (lv_sub (l' := [(0, .ref (L.2.1 0 0)), (3, .int 0)]) hl [1, 0] rfl) (by omega)
def v_LA_init_b57 (n : Nat) (ad : Nat → Nat → Nat) (zm ym : Nat) (g : mm_M) (z y : Nat) (t3 : Int32) : Option (mm_M × Nat × Nat) :=
  v_LA_init_b58 n ad zm ym g z y t3 0
set_option maxRecDepth 100000 in
set_option maxHeartbeats 4000000 in
theorem wv_LA_init_b57 {p : Program} {l : Launch} {e : Env} {R : Room} {s : State} {m : MethodId} {args : Array Value} {below : List Frame} {meth : Method} {c : Code} {L : mm_L} {zm ym y0 B z' y' : Nat} {g' : mm_M} {g : mm_M} {z y : Nat} {t3 : Int32} {H : Heap} {locs : List Loc} {ls : Array Slot} {cells slots : Nat} (hX : mm_Y L prog_1_method_1_code 4 "LoanArrows" 3 74 zm ym y0 B p l R s m meth c) (hBL : ∀ h i, mm_lv L.1 h i → B ≤ L.2.1 h i) (h : v_LA_init_b57 L.1 L.2.1 zm ym g z y t3 = some (g', z', y')) (hP : mm_V B L g H) (hF : ∀ q ∈ locs, B ≤ q.base) (hz : H.size = z) (hcs : cells + s.heap.size = z) (hsy : slots + y0 = y) (hl : lv_has ls 4 [(0, .ref (L.2.1 0 0))]) (hlt0 : L.2.1 0 0 < z) (hlt1 : L.2.1 2 0 < z) : W p l e R s m args below meth c H locs cells slots (mm_QV below L s B y0 g' z' y') (F0 m 57 ls [.int t3, .ref (L.2.1 2 0), .ref (L.2.1 2 0), .ref (L.2.1 0 0)]) := by
  have hX0 := hX
  obtain ⟨hx, hb, hml, hown, hr, hlk, hRf, hRl, hJ, hK, hin0, hB0, hRc, hRs, hA0, hNS⟩ := hX0
  unfold v_LA_init_b57 at h
  refine lv_iconst (v := 0) hx hb d_LA_init_57 (by decide) ?_
  exact wv_LA_init_b58 hX hBL h hP hF hz hcs hsy (lv_sub (l' := [(0, .ref (L.2.1 0 0))]) hl [0] rfl) (by omega) (by omega)
def v_LA_init_b22 (n : Nat) (ad : Nat → Nat → Nat) (zm ym : Nat) (g : mm_M) (z y : Nat) (x2 : Int32) (t1 : Int32) : Option (mm_M × Nat × Nat) :=
  mm_let (mm_st g 0 0 0 t1) (fun g1 => mm_ln (g1 0 0 0) n (mm_al z (ad 1 0) zm y n ym (mm_let (mm_row g1 1 0 (fun _ => 0)) (fun g5 => mm_let (mm_st g5 0 0 1 1) (fun g7 => mm_al (z + 1) (ad 2 0) zm (y + n) 1 ym (mm_let (mm_row g7 2 0 (fun _ => 0)) (fun g10 => (if x2 < 0 then v_LA_init_b57 n ad zm ym g10 ((z + 1) + 1) ((y + n) + 1) (g10 0 0 0) else (if 2 < x2 then v_LA_init_b57 n ad zm ym g10 ((z + 1) + 1) ((y + n) + 1) (g10 0 0 0) else v_LA_init_b58 n ad zm ym g10 ((z + 1) + 1) ((y + n) + 1) (g10 0 0 0) x2)))))))))
set_option maxRecDepth 100000 in
set_option maxHeartbeats 4000000 in
theorem wv_LA_init_b22 {p : Program} {l : Launch} {e : Env} {R : Room} {s : State} {m : MethodId} {args : Array Value} {below : List Frame} {meth : Method} {c : Code} {L : mm_L} {zm ym y0 B z' y' : Nat} {g' : mm_M} {g : mm_M} {z y : Nat} {x2 : Int32} {t1 : Int32} {H : Heap} {locs : List Loc} {ls : Array Slot} {cells slots : Nat} (hX : mm_Y L prog_1_method_1_code 4 "LoanArrows" 3 74 zm ym y0 B p l R s m meth c) (hBL : ∀ h i, mm_lv L.1 h i → B ≤ L.2.1 h i) (h : v_LA_init_b22 L.1 L.2.1 zm ym g z y x2 t1 = some (g', z', y')) (hP : mm_V B L g H) (hF : ∀ q ∈ locs, B ≤ q.base) (hz : H.size = z) (hcs : cells + s.heap.size = z) (hsy : slots + y0 = y) (hl : lv_has ls 4 [(0, .ref (L.2.1 0 0)), (2, .int x2)]) (hlt0 : L.2.1 0 0 < z) : W p l e R s m args below meth c H locs cells slots (mm_QV below L s B y0 g' z' y') (F0 m 22 ls [.int t1, .ref (L.2.1 0 0)]) := by
  have hX0 := hX
  obtain ⟨hx, hb, hml, hown, hr, hlk, hRf, hRl, hJ, hK, hin0, hB0, hRc, hRs, hA0, hNS⟩ := hX0
  unfold v_LA_init_b22 at h
  refine mm_vput (h := 0) (i := 0) 0 t1 hX hP hF mm_ls0 (by omega) (hBL _ _ mm_ls0) rfl rfl rfl uin_0 ty_0 tyok_0 nmok_0 (by decide) ⟨rfl, rfl, rfl⟩ (Or.inr ⟨rfl, rfl⟩) wt_156 rfl rfl rfl (Nat.le_of_ble_eq_true rfl) d_LA_init_22 (fun H locs hzz hP hF => ?_)
  obtain ⟨g1, e2, h⟩ := mm_let_ex h
  have hP : mm_V B L g1 H := by rw [e2]; exact hP
  replace hz : H.size = z := by omega
  clear hzz
  refine lv_aload_n hx hb d_LA_init_25 rfl (lv_at hl 0 rfl) ?_
  refine lv_aload_n hx hb d_LA_init_26 rfl (lv_at hl 0 rfl) ?_
  refine mm_vget (h := 0) (i := 0) 0 hX hP mm_ls0 (by omega) rfl rfl uin_0 (by decide) ⟨rfl, rfl, rfl⟩ wt_156 rfl d_LA_init_27 ?_
  obtain ⟨hn4, hn4b, h⟩ := mm_ln_some h
  obtain ⟨ha3, ha3b, ha3c, h⟩ := mm_al_some h
  refine mm_vnewa (atype := .boolean) (ty := .boolean) (h := 1) (i := 0) (t := 1) (N := L.1) hX hP mm_ls1 (by omega) rfl (mm_ceZ _ _) rfl rfl (fun q => q) wt_38 hn4 hn4b (by decide) (by omega) (by omega) d_LA_init_30 (fun H hzz hP => ?_)
  obtain ⟨g5, e6, h⟩ := mm_let_ex h
  have hP : mm_V B L g5 H := by rw [e6]; exact hP
  replace hz : H.size = z + 1 := by omega
  replace hcs := mm_pl 1 hcs
  replace hsy := mm_pl L.1 hsy
  clear hzz ha3b ha3c
  refine mm_vput (h := 0) (i := 0) 1 1 hX hP hF mm_ls0 (by omega) (hBL _ _ mm_ls0) rfl rfl rfl uin_0 ty_0 tyok_0 nmok_0 (by decide) ⟨rfl, rfl, rfl⟩ (Or.inr ⟨rfl, rfl⟩) wt_157 rfl rfl rfl (Nat.le_of_ble_eq_true rfl) d_LA_init_32 (fun H locs hzz hP hF => ?_)
  obtain ⟨g7, e8, h⟩ := mm_let_ex h
  have hP : mm_V B L g7 H := by rw [e8]; exact hP
  replace hz : H.size = (z + 1) := by omega
  clear hzz
  refine lv_aload_n hx hb d_LA_init_35 rfl (lv_at hl 0 rfl) ?_
  obtain ⟨ha9, ha9b, ha9c, h⟩ := mm_al_some h
  refine mm_vnew (h := 2) (i := 0) ty_2 hX hP mm_ls2 (by omega) rfl rfl uin_2 tyok_2 (fun j hj => by match j, hj with
      | 0, _ => rfl
      | j + 1, hj => exact absurd hj (by omega)) wt_25 wt_26 wt_2 (by omega) (by omega) d_LA_init_36 (fun H hzz hP => ?_)
  obtain ⟨g10, e11, h⟩ := mm_let_ex h
  have hP : mm_V B L g10 H := by rw [e11]; exact hP
  replace hz : H.size = (z + 1) + 1 := by omega
  replace hcs := mm_pl 1 hcs
  replace hsy := mm_pl 1 hsy
  clear hzz ha9b ha9c
  refine lv_dup hx hb d_LA_init_39 rfl ?_
  refine lv_aload_n hx hb d_LA_init_40 rfl (lv_at hl 0 rfl) ?_
  refine mm_vget (h := 0) (i := 0) 0 hX hP mm_ls0 (by omega) rfl rfl uin_0 (by decide) ⟨rfl, rfl, rfl⟩ wt_156 rfl d_LA_init_41 ?_
  refine lv_iload_n hx hb d_LA_init_44 rfl (lv_at hl 1 rfl) ?_
  refine lv_if_lt (tgt := 57) hx hb d_LA_init_45 rfl (fun hc => ?_) (fun hc => ?_)
  · have h := mm_pos hc h
    exact wv_LA_init_b57 hX hBL h hP hF hz hcs hsy (lv_sub (l' := [(0, .ref (L.2.1 0 0))]) hl [0] rfl) (by omega) (by omega)
  · have h := mm_neg hc h
    refine lv_iload_n hx hb d_LA_init_48 rfl (lv_at hl 1 rfl) ?_
    refine lv_iconst (v := 2) hx hb d_LA_init_49 (by decide) ?_
    refine lv_icmp_gt (tgt := 57) hx hb d_LA_init_50 rfl (fun hc => ?_) (fun hc => ?_)
    · have h := mm_pos hc h
      exact wv_LA_init_b57 hX hBL h hP hF hz hcs hsy (lv_sub (l' := [(0, .ref (L.2.1 0 0))]) hl [0] rfl) (by omega) (by omega)
    · have h := mm_neg hc h
      refine lv_iload_n hx hb d_LA_init_53 rfl (lv_at hl 1 rfl) ?_
      refine lv_goto (tgt := 58) hx hb d_LA_init_54 rfl ?_
      exact wv_LA_init_b58 hX hBL h hP hF hz hcs hsy (lv_sub (l' := [(0, .ref (L.2.1 0 0))]) hl [0] rfl) (by omega) (by omega)
def v_LA_init_b20 (n : Nat) (ad : Nat → Nat → Nat) (zm ym : Nat) (g : mm_M) (z y : Nat) (x2 : Int32) : Option (mm_M × Nat × Nat) :=
  v_LA_init_b22 n ad zm ym g z y x2 6
set_option maxRecDepth 100000 in
set_option maxHeartbeats 4000000 in
theorem wv_LA_init_b20 {p : Program} {l : Launch} {e : Env} {R : Room} {s : State} {m : MethodId} {args : Array Value} {below : List Frame} {meth : Method} {c : Code} {L : mm_L} {zm ym y0 B z' y' : Nat} {g' : mm_M} {g : mm_M} {z y : Nat} {x2 : Int32} {H : Heap} {locs : List Loc} {ls : Array Slot} {cells slots : Nat} (hX : mm_Y L prog_1_method_1_code 4 "LoanArrows" 3 74 zm ym y0 B p l R s m meth c) (hBL : ∀ h i, mm_lv L.1 h i → B ≤ L.2.1 h i) (h : v_LA_init_b20 L.1 L.2.1 zm ym g z y x2 = some (g', z', y')) (hP : mm_V B L g H) (hF : ∀ q ∈ locs, B ≤ q.base) (hz : H.size = z) (hcs : cells + s.heap.size = z) (hsy : slots + y0 = y) (hl : lv_has ls 4 [(0, .ref (L.2.1 0 0)), (2, .int x2)]) (hlt0 : L.2.1 0 0 < z) : W p l e R s m args below meth c H locs cells slots (mm_QV below L s B y0 g' z' y') (F0 m 20 ls [.ref (L.2.1 0 0)]) := by
  have hX0 := hX
  obtain ⟨hx, hb, hml, hown, hr, hlk, hRf, hRl, hJ, hK, hin0, hB0, hRc, hRs, hA0, hNS⟩ := hX0
  unfold v_LA_init_b20 at h
  refine lv_bipush (v := 6) hx hb d_LA_init_20 (by decide) ?_
  exact wv_LA_init_b22 hX hBL h hP hF hz hcs hsy (lv_sub (l' := [(0, .ref (L.2.1 0 0)), (2, .int x2)]) hl [0, 1] rfl) (by omega)
def v_LA_init (n : Nat) (ad : Nat → Nat → Nat) (zm ym : Nat) (g : mm_M) (z y : Nat) (x1 : Int32) (x2 : Int32) : Option (mm_M × Nat × Nat) :=
  (if x1 < 2 then v_LA_init_b20 n ad zm ym g z y x2 else (if 12 < x1 then v_LA_init_b20 n ad zm ym g z y x2 else v_LA_init_b22 n ad zm ym g z y x2 x1))
set_option maxRecDepth 100000 in
set_option maxHeartbeats 4000000 in
theorem wv_LA_init {p : Program} {l : Launch} {e : Env} {R : Room} {s : State} {m : MethodId} {args : Array Value} {below : List Frame} {meth : Method} {c : Code} {L : mm_L} {zm ym y0 B z' y' : Nat} {g' : mm_M} {g : mm_M} {z y : Nat} {x1 : Int32} {x2 : Int32} {H : Heap} {locs : List Loc} {ls : Array Slot} {cells slots : Nat} (hX : mm_Y L prog_1_method_1_code 4 "LoanArrows" 3 74 zm ym y0 B p l R s m meth c) (hBL : ∀ h i, mm_lv L.1 h i → B ≤ L.2.1 h i) (h : v_LA_init L.1 L.2.1 zm ym g z y x1 x2 = some (g', z', y')) (hP : mm_V B L g H) (hF : ∀ q ∈ locs, B ≤ q.base) (hz : H.size = z) (hcs : cells + s.heap.size = z) (hsy : slots + y0 = y) (hl : lv_has ls 4 [(0, .ref (L.2.1 0 0)), (1, .int x1), (2, .int x2)]) (hlt0 : L.2.1 0 0 < z) : W p l e R s m args below meth c H locs cells slots (mm_QV below L s B y0 g' z' y') (F0 m 0 ls []) := by
  have hX0 := hX
  obtain ⟨hx, hb, hml, hown, hr, hlk, hRf, hRl, hJ, hK, hin0, hB0, hRc, hRs, hA0, hNS⟩ := hX0
  unfold v_LA_init at h
  refine lv_aload_n hx hb d_LA_init_0 rfl (lv_at hl 0 rfl) ?_
  refine mm_vobj hX wt_22 wt_23 wt_24 hl.1 (by decide) (Nat.le_of_ble_eq_true rfl) d_LA_init_1 ?_
  refine lv_aload_n hx hb d_LA_init_4 rfl (lv_at hl 0 rfl) ?_
  refine lv_iload_n hx hb d_LA_init_5 rfl (lv_at hl 1 rfl) ?_
  refine lv_iconst (v := 2) hx hb d_LA_init_6 (by decide) ?_
  refine lv_icmp_lt (tgt := 20) hx hb d_LA_init_7 rfl (fun hc => ?_) (fun hc => ?_)
  · have h := mm_pos hc h
    exact wv_LA_init_b20 hX hBL h hP hF hz hcs hsy (lv_sub (l' := [(0, .ref (L.2.1 0 0)), (2, .int x2)]) hl [0, 2] rfl) (by omega)
  · have h := mm_neg hc h
    refine lv_iload_n hx hb d_LA_init_10 rfl (lv_at hl 1 rfl) ?_
    refine lv_bipush (v := 12) hx hb d_LA_init_11 (by decide) ?_
    refine lv_icmp_gt (tgt := 20) hx hb d_LA_init_13 rfl (fun hc => ?_) (fun hc => ?_)
    · have h := mm_pos hc h
      exact wv_LA_init_b20 hX hBL h hP hF hz hcs hsy (lv_sub (l' := [(0, .ref (L.2.1 0 0)), (2, .int x2)]) hl [0, 2] rfl) (by omega)
    · have h := mm_neg hc h
      refine lv_iload_n hx hb d_LA_init_16 rfl (lv_at hl 1 rfl) ?_
      refine lv_goto (tgt := 22) hx hb d_LA_init_17 rfl ?_
      exact wv_LA_init_b22 hX hBL h hP hF hz hcs hsy (lv_sub (l' := [(0, .ref (L.2.1 0 0)), (2, .int x2)]) hl [0, 2] rfl) (by omega)
set_option maxRecDepth 100000 in
set_option maxHeartbeats 4000000 in
theorem cv_LA_init {l : Launch} {L : mm_L} {g g' : mm_M} {zm ym B z y z' y' : Nat} {x1 : Int32} {x2 : Int32} (hBL : ∀ h i, mm_lv L.1 h i → B ≤ L.2.1 h i) (hlt0 : L.2.1 0 0 < z) (h : v_LA_init L.1 L.2.1 zm ym g z y x1 x2 = some (g', z', y')) : mm_CV l y_LA_init prog_1_method_1_code 4 3 74 zm ym B L [.ref (L.2.1 0 0), .int x1, .int x2] g z y g' z' y' := by
  intro p e R s m below meth c hX hP hz
  refine mm_enter (Nat.le_of_ble_eq_true rfl) fun ls hl => ?_
  exact wv_LA_init hX hBL h hP (fun q hq => by cases hq) hz (by omega) (by omega) (lv_sub (l' := [(0, .ref (L.2.1 0 0)), (1, .int x1), (2, .int x2)]) hl [0, 1, 2] rfl) hlt0

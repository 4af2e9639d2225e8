def v_Mo_init_l272 (n : Nat) (ad : Nat → Nat → Nat) (zm ym : Nat) : Nat → mm_M → Nat → Nat → Int32 → Option (mm_M × Nat × Nat)
  | 0, _, _, _, _ => none
  | k + 1, g, z, y, x3 => (if 3 ≤ x3 then some (g, z, y) else mm_nn (g 20 0 11) (mm_lt (ad 30 0) z (mm_ix x3 3 (mm_let (mm_st g 30 0 x3.toNatClampNeg (-1)) (fun g3 => v_Mo_init_l272 n ad zm ym k g3 z y (x3 + 1))))))
set_option maxRecDepth 100000 in
set_option maxHeartbeats 4000000 in
theorem wv_Mo_init_l272 {p : Program} {l : Launch} {e : Env} {R : Room} {s : State} {m : MethodId} {args : Array Value} {below : List Frame} {meth : Method} {c : Code} {L : mm_L} {zm ym y0 B z' y' : Nat} {g' : mm_M} (hX : mm_Y L prog_9_method_1_code 4 "LoanArrowsModel" 1 30 zm ym y0 B p l R s m meth c) (hBL : ∀ h i, mm_lv L.1 h i → B ≤ L.2.1 h i) : ∀ (k : Nat) (g : mm_M) (z y : Nat) (x3 : Int32) (H : Heap) (locs : List Loc) (ls : Array Slot) (cells slots : Nat), v_Mo_init_l272 L.1 L.2.1 zm ym k g z y x3 = some (g', z', y') → mm_V B L g H → (∀ q ∈ locs, B ≤ q.base) → H.size = z → cells + s.heap.size = z → slots + y0 = y → lv_has ls 4 [(0, .ref (L.2.1 20 0)), (3, .int x3)] → L.2.1 20 0 < z → W p l e R s m args below meth c H locs cells slots (mm_QV below L s B y0 g' z' y') (F0 m 272 ls []) := by
  have hX0 := hX
  obtain ⟨hx, hb, hml, hown, hr, hlk, hRf, hRl, hJ, hK, hin0, hB0, hRc, hRs, hA0, hNS⟩ := hX0
  intro k
  induction k with
  | zero =>
    intro g z y x3 H locs ls cells slots h hP hF hz hcs hsy hl hlt0
    rw [v_Mo_init_l272] at h
    cases h
  | succ k ih =>
    intro g z y x3 H locs ls cells slots h hP hF hz hcs hsy hl hlt0
    rw [v_Mo_init_l272] at h
    refine lv_iload_n hx hb d_Mo_init_272 rfl (lv_at hl 1 rfl) ?_
    refine lv_iconst (v := 3) hx hb d_Mo_init_273 (by decide) ?_
    refine lv_icmp_ge (tgt := 290) hx hb d_Mo_init_274 rfl (fun hc => ?_) (fun hc => ?_)
    · have h := mm_pos hc h
      cases h
      exact mm_vvret hX hP hF hz hcs hsy d_Mo_init_290
    · have h := mm_neg hc h
      refine lv_aload_n hx hb d_Mo_init_277 rfl (lv_at hl 0 rfl) ?_
      obtain ⟨hne1, h⟩ := mm_nn_some h
      obtain ⟨hl2, h⟩ := mm_lt_some h
      refine mm_vgetR (h := 20) (i := 0) 11 hX hP mm_ls20 (by omega) rfl rfl uin_20 (by decide) ⟨rfl, rfl, rfl⟩ wt_623 rfl hne1 d_Mo_init_278 ?_
      refine lv_iload_n hx hb d_Mo_init_281 rfl (lv_at hl 1 rfl) ?_
      refine lv_iconst (v := -1) hx hb d_Mo_init_282 (by decide) ?_
      obtain ⟨hin, h⟩ := mm_ix_some h
      refine mm_viast (h := 30) (i := 0) hX hP hF mm_ls30 (by omega) (hBL _ _ mm_ls30) (fun _ => rfl) rfl hin d_Mo_init_283 (fun H locs hzz hP hF => ?_)
      obtain ⟨g3, e4, h⟩ := mm_let_ex h
      have hP : mm_V B L g3 H := by rw [e4]; exact hP
      replace hz : H.size = z := by omega
      clear hzz
      refine lv_iinc (k := 1) (v := (x3 + 1)) hx hb d_Mo_init_284 hl rfl (congrArg (fun z => x3 + z) mm_i1) (Nat.lt_of_lt_of_le (Nat.lt_succ_self _) (Nat.le_of_ble_eq_true rfl)) rfl (fun ls hl => ?_)
      have hl : lv_has ls 4 [(3, .int (x3 + 1)), (0, .ref (L.2.1 20 0))] := hl
      refine lv_goto (tgt := 272) hx hb d_Mo_init_287 rfl ?_
      exact ih _ _ _ _ _ _ _ _ _ h hP hF hz hcs hsy (lv_sub (l' := [(0, .ref (L.2.1 20 0)), (3, .int (x3 + 1))]) hl [1, 0] rfl) (by omega)
def v_Mo_init_l219 (n : Nat) (ad : Nat → Nat → Nat) (zm ym : Nat) : Nat → mm_M → Nat → Nat → Int32 → Int32 → Option (mm_M × Nat × Nat)
  | 0, _, _, _, _, _ => none
  | k + 1, g, z, y, x2, x3 => (if 12 ≤ x3 then v_Mo_init_l272 n ad zm ym 4096 g z y 0 else mm_nn (g 20 0 2) (mm_lt (ad 21 0) z ((if x3 = 0 then mm_ix x3 12 (mm_let (mm_st g 21 0 x3.toNatClampNeg (-1)) (fun g9 => v_Mo_init_l219 n ad zm ym k g9 z y x2 (x3 + 1))) else (if x2 = 1 then mm_ix x3 12 (mm_let (mm_st g 21 0 x3.toNatClampNeg (x3 - 1)) (fun g7 => v_Mo_init_l219 n ad zm ym k g7 z y x2 (x3 + 1))) else (if x2 = 2 then mm_ix x3 12 (mm_let (mm_st g 21 0 x3.toNatClampNeg 0) (fun g5 => v_Mo_init_l219 n ad zm ym k g5 z y x2 (x3 + 1))) else mm_ix x3 12 (mm_let (mm_st g 21 0 x3.toNatClampNeg ((x3 - 1) / 2)) (fun g3 => v_Mo_init_l219 n ad zm ym k g3 z y x2 (x3 + 1)))))))))
set_option maxRecDepth 100000 in
set_option maxHeartbeats 4000000 in
theorem wv_Mo_init_l219 {p : Program} {l : Launch} {e : Env} {R : Room} {s : State} {m : MethodId} {args : Array Value} {below : List Frame} {meth : Method} {c : Code} {L : mm_L} {zm ym y0 B z' y' : Nat} {g' : mm_M} (hX : mm_Y L prog_9_method_1_code 4 "LoanArrowsModel" 1 30 zm ym y0 B p l R s m meth c) (hBL : ∀ h i, mm_lv L.1 h i → B ≤ L.2.1 h i) : ∀ (k : Nat) (g : mm_M) (z y : Nat) (x2 : Int32) (x3 : Int32) (H : Heap) (locs : List Loc) (ls : Array Slot) (cells slots : Nat), v_Mo_init_l219 L.1 L.2.1 zm ym k g z y x2 x3 = some (g', z', y') → mm_V B L g H → (∀ q ∈ locs, B ≤ q.base) → H.size = z → cells + s.heap.size = z → slots + y0 = y → lv_has ls 4 [(0, .ref (L.2.1 20 0)), (2, .int x2), (3, .int x3)] → L.2.1 20 0 < z → W p l e R s m args below meth c H locs cells slots (mm_QV below L s B y0 g' z' y') (F0 m 219 ls []) := by
  have hX0 := hX
  obtain ⟨hx, hb, hml, hown, hr, hlk, hRf, hRl, hJ, hK, hin0, hB0, hRc, hRs, hA0, hNS⟩ := hX0
  intro k
  induction k with
  | zero =>
    intro g z y x2 x3 H locs ls cells slots h hP hF hz hcs hsy hl hlt0
    rw [v_Mo_init_l219] at h
    cases h
  | succ k ih =>
    intro g z y x2 x3 H locs ls cells slots h hP hF hz hcs hsy hl hlt0
    rw [v_Mo_init_l219] at h
    refine lv_iload_n hx hb d_Mo_init_219 rfl (lv_at hl 2 rfl) ?_
    refine lv_bipush (v := 12) hx hb d_Mo_init_220 (by decide) ?_
    refine lv_icmp_ge (tgt := 270) hx hb d_Mo_init_222 rfl (fun hc => ?_) (fun hc => ?_)
    · have h := mm_pos hc h
      refine lv_iconst (v := 0) hx hb d_Mo_init_270 (by decide) ?_
      refine lv_istore_n hx hb d_Mo_init_271 rfl hl (Nat.lt_of_lt_of_le (Nat.lt_succ_self _) (Nat.le_of_ble_eq_true rfl)) rfl (fun ls hl => ?_)
      have hl : lv_has ls 4 [(3, .int 0), (0, .ref (L.2.1 20 0)), (2, .int x2)] := hl
      exact wv_Mo_init_l272 hX hBL _ _ _ _ _ _ _ _ _ _ h hP hF hz hcs hsy (lv_sub (l' := [(0, .ref (L.2.1 20 0)), (3, .int 0)]) hl [1, 0] rfl) (by omega)
    · have h := mm_neg hc h
      refine lv_aload_n hx hb d_Mo_init_225 rfl (lv_at hl 0 rfl) ?_
      obtain ⟨hne1, h⟩ := mm_nn_some h
      obtain ⟨hl2, h⟩ := mm_lt_some h
      refine mm_vgetR (h := 20) (i := 0) 2 hX hP mm_ls20 (by omega) rfl rfl uin_20 (by decide) ⟨rfl, rfl, rfl⟩ wt_614 rfl hne1 d_Mo_init_226 ?_
      refine lv_iload_n hx hb d_Mo_init_229 rfl (lv_at hl 2 rfl) ?_
      refine lv_iload_n hx hb d_Mo_init_230 rfl (lv_at hl 2 rfl) ?_
      refine lv_if_ne (tgt := 238) hx hb d_Mo_init_231 rfl (fun hc => ?_) (fun hc => ?_)
      · have h := mm_neg hc h
        refine lv_iload_n hx hb d_Mo_init_238 rfl (lv_at hl 1 rfl) ?_
        refine lv_iconst (v := 1) hx hb d_Mo_init_239 (by decide) ?_
        refine lv_icmp_ne (tgt := 249) hx hb d_Mo_init_240 rfl (fun hc => ?_) (fun hc => ?_)
        · have h := mm_neg hc h
          refine lv_iload_n hx hb d_Mo_init_249 rfl (lv_at hl 1 rfl) ?_
          refine lv_iconst (v := 2) hx hb d_Mo_init_250 (by decide) ?_
          refine lv_icmp_ne (tgt := 258) hx hb d_Mo_init_251 rfl (fun hc => ?_) (fun hc => ?_)
          · have h := mm_neg hc h
            refine lv_iload_n hx hb d_Mo_init_258 rfl (lv_at hl 2 rfl) ?_
            refine lv_iconst (v := 1) hx hb d_Mo_init_259 (by decide) ?_
            refine lv_isub hx hb d_Mo_init_260 ?_
            refine lv_iconst (v := 2) hx hb d_Mo_init_261 (by decide) ?_
            refine lv_idiv hx hb d_Mo_init_262 (by decide) ?_
            obtain ⟨hin, h⟩ := mm_ix_some h
            refine mm_viast (h := 21) (i := 0) hX hP hF mm_ls21 (by omega) (hBL _ _ mm_ls21) (fun _ => rfl) rfl hin d_Mo_init_263 (fun H locs hzz hP hF => ?_)
            obtain ⟨g3, e4, h⟩ := mm_let_ex h
            have hP : mm_V B L g3 H := by rw [e4]; exact hP
            replace hz : H.size = z := by omega
            clear hzz
            refine lv_iinc (k := 2) (v := (x3 + 1)) hx hb d_Mo_init_264 hl rfl (congrArg (fun z => x3 + z) mm_i1) (Nat.lt_of_lt_of_le (Nat.lt_succ_self _) (Nat.le_of_ble_eq_true rfl)) rfl (fun ls hl => ?_)
            have hl : lv_has ls 4 [(3, .int (x3 + 1)), (0, .ref (L.2.1 20 0)), (2, .int x2)] := hl
            refine lv_goto (tgt := 219) hx hb d_Mo_init_267 rfl ?_
            exact ih _ _ _ _ _ _ _ _ _ _ h hP hF hz hcs hsy (lv_sub (l' := [(0, .ref (L.2.1 20 0)), (2, .int x2), (3, .int (x3 + 1))]) hl [1, 2, 0] rfl) (by omega)
          · have h := mm_pos hc h
            refine lv_iconst (v := 0) hx hb d_Mo_init_254 (by decide) ?_
            refine lv_goto (tgt := 263) hx hb d_Mo_init_255 rfl ?_
            obtain ⟨hin, h⟩ := mm_ix_some h
            refine mm_viast (h := 21) (i := 0) hX hP hF mm_ls21 (by omega) (hBL _ _ mm_ls21) (fun _ => rfl) rfl hin d_Mo_init_263 (fun H locs hzz hP hF => ?_)
            obtain ⟨g5, e6, h⟩ := mm_let_ex h
            have hP : mm_V B L g5 H := by rw [e6]; exact hP
            replace hz : H.size = z := by omega
            clear hzz
            refine lv_iinc (k := 2) (v := (x3 + 1)) hx hb d_Mo_init_264 hl rfl (congrArg (fun z => x3 + z) mm_i1) (Nat.lt_of_lt_of_le (Nat.lt_succ_self _) (Nat.le_of_ble_eq_true rfl)) rfl (fun ls hl => ?_)
            have hl : lv_has ls 4 [(3, .int (x3 + 1)), (0, .ref (L.2.1 20 0)), (2, .int x2)] := hl
            refine lv_goto (tgt := 219) hx hb d_Mo_init_267 rfl ?_
            exact ih _ _ _ _ _ _ _ _ _ _ h hP hF hz hcs hsy (lv_sub (l' := [(0, .ref (L.2.1 20 0)), (2, .int x2), (3, .int (x3 + 1))]) hl [1, 2, 0] rfl) (by omega)
        · have h := mm_pos hc h
          refine lv_iload_n hx hb d_Mo_init_243 rfl (lv_at hl 2 rfl) ?_
          refine lv_iconst (v := 1) hx hb d_Mo_init_244 (by decide) ?_
          refine lv_isub hx hb d_Mo_init_245 ?_
          refine lv_goto (tgt := 263) hx hb d_Mo_init_246 rfl ?_
          obtain ⟨hin, h⟩ := mm_ix_some h
          refine mm_viast (h := 21) (i := 0) hX hP hF mm_ls21 (by omega) (hBL _ _ mm_ls21) (fun _ => rfl) rfl hin d_Mo_init_263 (fun H locs hzz hP hF => ?_)
          obtain ⟨g7, e8, h⟩ := mm_let_ex h
          have hP : mm_V B L g7 H := by rw [e8]; exact hP
          replace hz : H.size = z := by omega
          clear hzz
          refine lv_iinc (k := 2) (v := (x3 + 1)) hx hb d_Mo_init_264 hl rfl (congrArg (fun z => x3 + z) mm_i1) (Nat.lt_of_lt_of_le (Nat.lt_succ_self _) (Nat.le_of_ble_eq_true rfl)) rfl (fun ls hl => ?_)
          have hl : lv_has ls 4 [(3, .int (x3 + 1)), (0, .ref (L.2.1 20 0)), (2, .int x2)] := hl
          refine lv_goto (tgt := 219) hx hb d_Mo_init_267 rfl ?_
          exact ih _ _ _ _ _ _ _ _ _ _ h hP hF hz hcs hsy (lv_sub (l' := [(0, .ref (L.2.1 20 0)), (2, .int x2), (3, .int (x3 + 1))]) hl [1, 2, 0] rfl) (by omega)
      · have h := mm_pos hc h
        refine lv_iconst (v := -1) hx hb d_Mo_init_234 (by decide) ?_
        refine lv_goto (tgt := 263) hx hb d_Mo_init_235 rfl ?_
        obtain ⟨hin, h⟩ := mm_ix_some h
        refine mm_viast (h := 21) (i := 0) hX hP hF mm_ls21 (by omega) (hBL _ _ mm_ls21) (fun _ => rfl) rfl hin d_Mo_init_263 (fun H locs hzz hP hF => ?_)
        obtain ⟨g9, e10, h⟩ := mm_let_ex h
        have hP : mm_V B L g9 H := by rw [e10]; exact hP
        replace hz : H.size = z := by omega
        clear hzz
        refine lv_iinc (k := 2) (v := (x3 + 1)) hx hb d_Mo_init_264 hl rfl (congrArg (fun z => x3 + z) mm_i1) (Nat.lt_of_lt_of_le (Nat.lt_succ_self _) (Nat.le_of_ble_eq_true rfl)) rfl (fun ls hl => ?_)
        have hl : lv_has ls 4 [(3, .int (x3 + 1)), (0, .ref (L.2.1 20 0)), (2, .int x2)] := hl
        refine lv_goto (tgt := 219) hx hb d_Mo_init_267 rfl ?_
        exact ih _ _ _ _ _ _ _ _ _ _ h hP hF hz hcs hsy (lv_sub (l' := [(0, .ref (L.2.1 20 0)), (2, .int x2), (3, .int (x3 + 1))]) hl [1, 2, 0] rfl) (by omega)
def v_Mo_init_b214 (n : Nat) (ad : Nat → Nat → Nat) (zm ym : Nat) (g : mm_M) (z y : Nat) (x2 : Int32) (t1 : Int32) : Option (mm_M × Nat × Nat) :=
  mm_let (mm_st g 20 0 1 t1) (fun g1 => v_Mo_init_l219 n ad zm ym 4096 g1 z y x2 0)
set_option maxRecDepth 100000 in
set_option maxHeartbeats 4000000 in
theorem wv_Mo_init_b214 {p : Program} {l : Launch} {e : Env} {R : Room} {s : State} {m : MethodId} {args : Array Value} {below : List Frame} {meth : Method} {c : Code} {L : mm_L} {zm ym y0 B z' y' : Nat} {g' : mm_M} {g : mm_M} {z y : Nat} {x2 : Int32} {t1 : Int32} {H : Heap} {locs : List Loc} {ls : Array Slot} {cells slots : Nat} (hX : mm_Y L prog_9_method_1_code 4 "LoanArrowsModel" 1 30 zm ym y0 B p l R s m meth c) (hBL : ∀ h i, mm_lv L.1 h i → B ≤ L.2.1 h i) (h : v_Mo_init_b214 L.1 L.2.1 zm ym g z y x2 t1 = some (g', z', y')) (hP : mm_V B L g H) (hF : ∀ q ∈ locs, B ≤ q.base) (hz : H.size = z) (hcs : cells + s.heap.size = z) (hsy : slots + y0 = y) (hl : lv_has ls 4 [(0, .ref (L.2.1 20 0)), (2, .int x2)]) (hlt0 : L.2.1 20 0 < z) : W p l e R s m args below meth c H locs cells slots (mm_QV below L s B y0 g' z' y') (F0 m 214 ls [.int t1, .ref (L.2.1 20 0)]) := by
  have hX0 := hX
  obtain ⟨hx, hb, hml, hown, hr, hlk, hRf, hRl, hJ, hK, hin0, hB0, hRc, hRs, hA0, hNS⟩ := hX0
  unfold v_Mo_init_b214 at h
  refine mm_vput (h := 20) (i := 0) 1 t1 hX hP hF mm_ls20 (by omega) (hBL _ _ mm_ls20) rfl rfl rfl uin_20 ty_20 tyok_20 nmok_20 (by decide) ⟨rfl, rfl, rfl⟩ (Or.inr ⟨rfl, rfl⟩) wt_613 rfl rfl rfl (Nat.le_of_ble_eq_true rfl) d_Mo_init_214 (fun H locs hzz hP hF => ?_)
  obtain ⟨g1, e2, h⟩ := mm_let_ex h
  have hP : mm_V B L g1 H := by rw [e2]; exact hP
  replace hz : H.size = z := by omega
  clear hzz
  refine lv_iconst (v := 0) hx hb d_Mo_init_217 (by decide) ?_
  refine lv_istore_n hx hb d_Mo_init_218 rfl hl (Nat.lt_of_lt_of_le (Nat.lt_succ_self _) (Nat.le_of_ble_eq_true rfl)) rfl (fun ls hl => ?_)
  have hl : lv_has ls 4 [(3, .int 0), (0, .ref (L.2.1 20 0)), (2, .int x2)] := hl
  exact wv_Mo_init_l219 hX hBL _ _ _ _ _ _ _ _ _ _ _ h hP hF hz hcs hsy (lv_sub (l' := [(0, .ref (L.2.1 20 0)), (2, .int x2), (3, .int 0)]) hl [1, 2, 0] rfl) (by omega)
def v_Mo_init_b208 (n : Nat) (ad : Nat → Nat → Nat) (zm ym : Nat) (g : mm_M) (z y : Nat) (x2 : Int32) : Option (mm_M × Nat × Nat) :=
  v_Mo_init_b214 n ad zm ym g z y x2 6
set_option maxRecDepth 100000 in
set_option maxHeartbeats 4000000 in
theorem wv_Mo_init_b208 {p : Program} {l : Launch} {e : Env} {R : Room} {s : State} {m : MethodId} {args : Array Value} {below : List Frame} {meth : Method} {c : Code} {L : mm_L} {zm ym y0 B z' y' : Nat} {g' : mm_M} {g : mm_M} {z y : Nat} {x2 : Int32} {H : Heap} {locs : List Loc} {ls : Array Slot} {cells slots : Nat} (hX : mm_Y L prog_9_method_1_code 4 "LoanArrowsModel" 1 30 zm ym y0 B p l R s m meth c) (hBL : ∀ h i, mm_lv L.1 h i → B ≤ L.2.1 h i) (h : v_Mo_init_b208 L.1 L.2.1 zm ym g z y x2 = some (g', z', y')) (hP : mm_V B L g H) (hF : ∀ q ∈ locs, B ≤ q.base) (hz : H.size = z) (hcs : cells + s.heap.size = z) (hsy : slots + y0 = y) (hl : lv_has ls 4 [(0, .ref (L.2.1 20 0)), (2, .int x2)]) (hlt0 : L.2.1 20 0 < z) : W p l e R s m args below meth c H locs cells slots (mm_QV below L s B y0 g' z' y') (F0 m 208 ls [.ref (L.2.1 20 0)]) := by
  have hX0 := hX
  obtain ⟨hx, hb, hml, hown, hr, hlk, hRf, hRl, hJ, hK, hin0, hB0, hRc, hRs, hA0, hNS⟩ := hX0
  unfold v_Mo_init_b208 at h
  refine lv_bipush (v := 6) hx hb d_Mo_init_208 (by decide) ?_
  refine lv_goto (tgt := 214) hx hb d_Mo_init_210 rfl ?_
  exact wv_Mo_init_b214 hX hBL h hP hF hz hcs hsy (lv_sub (l' := [(0, .ref (L.2.1 20 0)), (2, .int x2)]) hl [0, 1] rfl) (by omega)
def v_Mo_init_b188 (n : Nat) (ad : Nat → Nat → Nat) (zm ym : Nat) (g : mm_M) (z y : Nat) (x1 : Int32) (x2 : Int32) : Option (mm_M × Nat × Nat) :=
  mm_ln 40 40 (mm_al z (ad 44 0) zm y 40 ym (mm_let (mm_row g 44 0 (fun _ => 0)) (fun g3 => mm_let (mm_st g3 20 0 26 1) (fun g5 => (if x1 < 2 then v_Mo_init_b208 n ad zm ym g5 (z + 1) (y + 40) x2 else (if x1 ≤ 12 then v_Mo_init_b214 n ad zm ym g5 (z + 1) (y + 40) x2 x1 else v_Mo_init_b208 n ad zm ym g5 (z + 1) (y + 40) x2))))))
set_option maxRecDepth 100000 in
set_option maxHeartbeats 4000000 in
theorem wv_Mo_init_b188 {p : Program} {l : Launch} {e : Env} {R : Room} {s : State} {m : MethodId} {args : Array Value} {below : List Frame} {meth : Method} {c : Code} {L : mm_L} {zm ym y0 B z' y' : Nat} {g' : mm_M} {g : mm_M} {z y : Nat} {x1 : Int32} {x2 : Int32} {H : Heap} {locs : List Loc} {ls : Array Slot} {cells slots : Nat} (hX : mm_Y L prog_9_method_1_code 4 "LoanArrowsModel" 1 30 zm ym y0 B p l R s m meth c) (hBL : ∀ h i, mm_lv L.1 h i → B ≤ L.2.1 h i) (h : v_Mo_init_b188 L.1 L.2.1 zm ym g z y x1 x2 = some (g', z', y')) (hP : mm_V B L g H) (hF : ∀ q ∈ locs, B ≤ q.base) (hz : H.size = z) (hcs : cells + s.heap.size = z) (hsy : slots + y0 = y) (hl : lv_has ls 4 [(0, .ref (L.2.1 20 0)), (1, .int x1), (2, .int x2)]) (hlt0 : L.2.1 20 0 < z) : W p l e R s m args below meth c H locs cells slots (mm_QV below L s B y0 g' z' y') (F0 m 188 ls []) := by
  have hX0 := hX
  obtain ⟨hx, hb, hml, hown, hr, hlk, hRf, hRl, hJ, hK, hin0, hB0, hRc, hRs, hA0, hNS⟩ := hX0
  unfold v_Mo_init_b188 at h
  refine lv_aload_n hx hb d_Mo_init_188 rfl (lv_at hl 0 rfl) ?_
  refine lv_bipush (v := 40) hx hb d_Mo_init_189 (by decide) ?_
  obtain ⟨hn2, hn2b, h⟩ := mm_ln_some h
  obtain ⟨ha1, ha1b, ha1c, h⟩ := mm_al_some h
  refine mm_vnewa (atype := .int) (ty := .int) (h := 44) (i := 0) (t := 0) (N := 40) hX hP mm_ls44 (by omega) rfl (mm_ceI _ _) rfl rfl (fun q => q) wt_39 hn2 hn2b (by decide) (by omega) (by omega) d_Mo_init_191 (fun H hzz hP => ?_)
  obtain ⟨g3, e4, h⟩ := mm_let_ex h
  have hP : mm_V B L g3 H := by rw [e4]; exact hP
  replace hz : H.size = z + 1 := by omega
  replace hcs := mm_pl 1 hcs
  replace hsy := mm_pl 40 hsy
  clear hzz ha1b ha1c
  refine mm_vput (h := 20) (i := 0) 26 1 hX hP hF mm_ls20 (by omega) (hBL _ _ mm_ls20) rfl rfl rfl uin_20 ty_20 tyok_20 nmok_20 (by decide) ⟨rfl, rfl, rfl⟩ (Or.inr ⟨rfl, rfl⟩) wt_638 rfl rfl rfl (Nat.le_of_ble_eq_true rfl) d_Mo_init_193 (fun H locs hzz hP hF => ?_)
  obtain ⟨g5, e6, h⟩ := mm_let_ex h
  have hP : mm_V B L g5 H := by rw [e6]; exact hP
  replace hz : H.size = (z + 1) := by omega
  clear hzz
  refine lv_aload_n hx hb d_Mo_init_196 rfl (lv_at hl 0 rfl) ?_
  refine lv_iload_n hx hb d_Mo_init_197 rfl (lv_at hl 1 rfl) ?_
  refine lv_iconst (v := 2) hx hb d_Mo_init_198 (by decide) ?_
  refine lv_icmp_lt (tgt := 208) hx hb d_Mo_init_199 rfl (fun hc => ?_) (fun hc => ?_)
  · have h := mm_pos hc h
    exact wv_Mo_init_b208 hX hBL h hP hF hz hcs hsy (lv_sub (l' := [(0, .ref (L.2.1 20 0)), (2, .int x2)]) hl [0, 2] rfl) (by omega)
  · have h := mm_neg hc h
    refine lv_iload_n hx hb d_Mo_init_202 rfl (lv_at hl 1 rfl) ?_
    refine lv_bipush (v := 12) hx hb d_Mo_init_203 (by decide) ?_
    refine lv_icmp_le (tgt := 213) hx hb d_Mo_init_205 rfl (fun hc => ?_) (fun hc => ?_)
    · have h := mm_pos hc h
      refine lv_iload_n hx hb d_Mo_init_213 rfl (lv_at hl 1 rfl) ?_
      exact wv_Mo_init_b214 hX hBL h hP hF hz hcs hsy (lv_sub (l' := [(0, .ref (L.2.1 20 0)), (2, .int x2)]) hl [0, 2] rfl) (by omega)
    · have h := mm_neg hc h
      exact wv_Mo_init_b208 hX hBL h hP hF hz hcs hsy (lv_sub (l' := [(0, .ref (L.2.1 20 0)), (2, .int x2)]) hl [0, 2] rfl) (by omega)
def v_Mo_init_b172 (n : Nat) (ad : Nat → Nat → Nat) (zm ym : Nat) (g : mm_M) (z y : Nat) (x1 : Int32) (x2 : Int32) : Option (mm_M × Nat × Nat) :=
  mm_ln 40 40 (mm_al z (ad 42 0) zm y 40 ym (mm_let (mm_row g 42 0 (fun _ => 0)) (fun g3 => mm_let (mm_st g3 20 0 24 1) (fun g5 => mm_ln 40 40 (mm_al (z + 1) (ad 43 0) zm (y + 40) 40 ym (mm_let (mm_row g5 43 0 (fun _ => 0)) (fun g9 => mm_let (mm_st g9 20 0 25 1) (fun g11 => v_Mo_init_b188 n ad zm ym g11 ((z + 1) + 1) ((y + 40) + 40) x1 x2))))))))
set_option maxRecDepth 100000 in
set_option maxHeartbeats 4000000 in
theorem wv_Mo_init_b172 {p : Program} {l : Launch} {e : Env} {R : Room} {s : State} {m : MethodId} {args : Array Value} {below : List Frame} {meth : Method} {c : Code} {L : mm_L} {zm ym y0 B z' y' : Nat} {g' : mm_M} {g : mm_M} {z y : Nat} {x1 : Int32} {x2 : Int32} {H : Heap} {locs : List Loc} {ls : Array Slot} {cells slots : Nat} (hX : mm_Y L prog_9_method_1_code 4 "LoanArrowsModel" 1 30 zm ym y0 B p l R s m meth c) (hBL : ∀ h i, mm_lv L.1 h i → B ≤ L.2.1 h i) (h : v_Mo_init_b172 L.1 L.2.1 zm ym g z y x1 x2 = some (g', z', y')) (hP : mm_V B L g H) (hF : ∀ q ∈ locs, B ≤ q.base) (hz : H.size = z) (hcs : cells + s.heap.size = z) (hsy : slots + y0 = y) (hl : lv_has ls 4 [(0, .ref (L.2.1 20 0)), (1, .int x1), (2, .int x2)]) (hlt0 : L.2.1 20 0 < z) : W p l e R s m args below meth c H locs cells slots (mm_QV below L s B y0 g' z' y') (F0 m 172 ls []) := by
  have hX0 := hX
  obtain ⟨hx, hb, hml, hown, hr, hlk, hRf, hRl, hJ, hK, hin0, hB0, hRc, hRs, hA0, hNS⟩ := hX0
  unfold v_Mo_init_b172 at h
  refine lv_aload_n hx hb d_Mo_init_172 rfl (lv_at hl 0 rfl) ?_
  refine lv_bipush (v := 40) hx hb d_Mo_init_173 (by decide) ?_
  obtain ⟨hn2, hn2b, h⟩ := mm_ln_some h
  obtain ⟨ha1, ha1b, ha1c, h⟩ := mm_al_some h
  refine mm_vnewa (atype := .int) (ty := .int) (h := 42) (i := 0) (t := 0) (N := 40) hX hP mm_ls42 (by omega) rfl (mm_ceI _ _) rfl rfl (fun q => q) wt_39 hn2 hn2b (by decide) (by omega) (by omega) d_Mo_init_175 (fun H hzz hP => ?_)
  obtain ⟨g3, e4, h⟩ := mm_let_ex h
  have hP : mm_V B L g3 H := by rw [e4]; exact hP
  replace hz : H.size = z + 1 := by omega
  replace hcs := mm_pl 1 hcs
  replace hsy := mm_pl 40 hsy
  clear hzz ha1b ha1c
  refine mm_vput (h := 20) (i := 0) 24 1 hX hP hF mm_ls20 (by omega) (hBL _ _ mm_ls20) rfl rfl rfl uin_20 ty_20 tyok_20 nmok_20 (by decide) ⟨rfl, rfl, rfl⟩ (Or.inr ⟨rfl, rfl⟩) wt_636 rfl rfl rfl (Nat.le_of_ble_eq_true rfl) d_Mo_init_177 (fun H locs hzz hP hF => ?_)
  obtain ⟨g5, e6, h⟩ := mm_let_ex h
  have hP : mm_V B L g5 H := by rw [e6]; exact hP
  replace hz : H.size = (z + 1) := by omega
  clear hzz
  refine lv_aload_n hx hb d_Mo_init_180 rfl (lv_at hl 0 rfl) ?_
  refine lv_bipush (v := 40) hx hb d_Mo_init_181 (by decide) ?_
  obtain ⟨hn8, hn8b, h⟩ := mm_ln_some h
  obtain ⟨ha7, ha7b, ha7c, h⟩ := mm_al_some h
  refine mm_vnewa (atype := .int) (ty := .int) (h := 43) (i := 0) (t := 0) (N := 40) hX hP mm_ls43 (by omega) rfl (mm_ceI _ _) rfl rfl (fun q => q) wt_39 hn8 hn8b (by decide) (by omega) (by omega) d_Mo_init_183 (fun H hzz hP => ?_)
  obtain ⟨g9, e10, h⟩ := mm_let_ex h
  have hP : mm_V B L g9 H := by rw [e10]; exact hP
  replace hz : H.size = (z + 1) + 1 := by omega
  replace hcs := mm_pl 1 hcs
  replace hsy := mm_pl 40 hsy
  clear hzz ha7b ha7c
  refine mm_vput (h := 20) (i := 0) 25 1 hX hP hF mm_ls20 (by omega) (hBL _ _ mm_ls20) rfl rfl rfl uin_20 ty_20 tyok_20 nmok_20 (by decide) ⟨rfl, rfl, rfl⟩ (Or.inr ⟨rfl, rfl⟩) wt_637 rfl rfl rfl (Nat.le_of_ble_eq_true rfl) d_Mo_init_185 (fun H locs hzz hP hF => ?_)
  obtain ⟨g11, e12, h⟩ := mm_let_ex h
  have hP : mm_V B L g11 H := by rw [e12]; exact hP
  replace hz : H.size = ((z + 1) + 1) := by omega
  clear hzz
  exact wv_Mo_init_b188 hX hBL h hP hF hz hcs hsy (lv_sub (l' := [(0, .ref (L.2.1 20 0)), (1, .int x1), (2, .int x2)]) hl [0, 1, 2] rfl) (by omega)
def v_Mo_init_b156 (n : Nat) (ad : Nat → Nat → Nat) (zm ym : Nat) (g : mm_M) (z y : Nat) (x1 : Int32) (x2 : Int32) : Option (mm_M × Nat × Nat) :=
  mm_ln 40 40 (mm_al z (ad 40 0) zm y 40 ym (mm_let (mm_row g 40 0 (fun _ => 0)) (fun g3 => mm_let (mm_st g3 20 0 22 1) (fun g5 => mm_ln 40 40 (mm_al (z + 1) (ad 41 0) zm (y + 40) 40 ym (mm_let (mm_row g5 41 0 (fun _ => 0)) (fun g9 => mm_let (mm_st g9 20 0 23 1) (fun g11 => v_Mo_init_b172 n ad zm ym g11 ((z + 1) + 1) ((y + 40) + 40) x1 x2))))))))
set_option maxRecDepth 100000 in
set_option maxHeartbeats 4000000 in
theorem wv_Mo_init_b156 {p : Program} {l : Launch} {e : Env} {R : Room} {s : State} {m : MethodId} {args : Array Value} {below : List Frame} {meth : Method} {c : Code} {L : mm_L} {zm ym y0 B z' y' : Nat} {g' : mm_M} {g : mm_M} {z y : Nat} {x1 : Int32} {x2 : Int32} {H : Heap} {locs : List Loc} {ls : Array Slot} {cells slots : Nat} (hX : mm_Y L prog_9_method_1_code 4 "LoanArrowsModel" 1 30 zm ym y0 B p l R s m meth c) (hBL : ∀ h i, mm_lv L.1 h i → B ≤ L.2.1 h i) (h : v_Mo_init_b156 L.1 L.2.1 zm ym g z y x1 x2 = some (g', z', y')) (hP : mm_V B L g H) (hF : ∀ q ∈ locs, B ≤ q.base) (hz : H.size = z) (hcs : cells + s.heap.size = z) (hsy : slots + y0 = y) (hl : lv_has ls 4 [(0, .ref (L.2.1 20 0)), (1, .int x1), (2, .int x2)]) (hlt0 : L.2.1 20 0 < z) : W p l e R s m args below meth c H locs cells slots (mm_QV below L s B y0 g' z' y') (F0 m 156 ls []) := by
  have hX0 := hX
  obtain ⟨hx, hb, hml, hown, hr, hlk, hRf, hRl, hJ, hK, hin0, hB0, hRc, hRs, hA0, hNS⟩ := hX0
  unfold v_Mo_init_b156 at h
  refine lv_aload_n hx hb d_Mo_init_156 rfl (lv_at hl 0 rfl) ?_
  refine lv_bipush (v := 40) hx hb d_Mo_init_157 (by decide) ?_
  obtain ⟨hn2, hn2b, h⟩ := mm_ln_some h
  obtain ⟨ha1, ha1b, ha1c, h⟩ := mm_al_some h
  refine mm_vnewa (atype := .int) (ty := .int) (h := 40) (i := 0) (t := 0) (N := 40) hX hP mm_ls40 (by omega) rfl (mm_ceI _ _) rfl rfl (fun q => q) wt_39 hn2 hn2b (by decide) (by omega) (by omega) d_Mo_init_159 (fun H hzz hP => ?_)
  obtain ⟨g3, e4, h⟩ := mm_let_ex h
  have hP : mm_V B L g3 H := by rw [e4]; exact hP
  replace hz : H.size = z + 1 := by omega
  replace hcs := mm_pl 1 hcs
  replace hsy := mm_pl 40 hsy
  clear hzz ha1b ha1c
  refine mm_vput (h := 20) (i := 0) 22 1 hX hP hF mm_ls20 (by omega) (hBL _ _ mm_ls20) rfl rfl rfl uin_20 ty_20 tyok_20 nmok_20 (by decide) ⟨rfl, rfl, rfl⟩ (Or.inr ⟨rfl, rfl⟩) wt_634 rfl rfl rfl (Nat.le_of_ble_eq_true rfl) d_Mo_init_161 (fun H locs hzz hP hF => ?_)
  obtain ⟨g5, e6, h⟩ := mm_let_ex h
  have hP : mm_V B L g5 H := by rw [e6]; exact hP
  replace hz : H.size = (z + 1) := by omega
  clear hzz
  refine lv_aload_n hx hb d_Mo_init_164 rfl (lv_at hl 0 rfl) ?_
  refine lv_bipush (v := 40) hx hb d_Mo_init_165 (by decide) ?_
  obtain ⟨hn8, hn8b, h⟩ := mm_ln_some h
  obtain ⟨ha7, ha7b, ha7c, h⟩ := mm_al_some h
  refine mm_vnewa (atype := .int) (ty := .int) (h := 41) (i := 0) (t := 0) (N := 40) hX hP mm_ls41 (by omega) rfl (mm_ceI _ _) rfl rfl (fun q => q) wt_39 hn8 hn8b (by decide) (by omega) (by omega) d_Mo_init_167 (fun H hzz hP => ?_)
  obtain ⟨g9, e10, h⟩ := mm_let_ex h
  have hP : mm_V B L g9 H := by rw [e10]; exact hP
  replace hz : H.size = (z + 1) + 1 := by omega
  replace hcs := mm_pl 1 hcs
  replace hsy := mm_pl 40 hsy
  clear hzz ha7b ha7c
  refine mm_vput (h := 20) (i := 0) 23 1 hX hP hF mm_ls20 (by omega) (hBL _ _ mm_ls20) rfl rfl rfl uin_20 ty_20 tyok_20 nmok_20 (by decide) ⟨rfl, rfl, rfl⟩ (Or.inr ⟨rfl, rfl⟩) wt_635 rfl rfl rfl (Nat.le_of_ble_eq_true rfl) d_Mo_init_169 (fun H locs hzz hP hF => ?_)
  obtain ⟨g11, e12, h⟩ := mm_let_ex h
  have hP : mm_V B L g11 H := by rw [e12]; exact hP
  replace hz : H.size = ((z + 1) + 1) := by omega
  clear hzz
  exact wv_Mo_init_b172 hX hBL h hP hF hz hcs hsy (lv_sub (l' := [(0, .ref (L.2.1 20 0)), (1, .int x1), (2, .int x2)]) hl [0, 1, 2] rfl) (by omega)
def v_Mo_init_b139 (n : Nat) (ad : Nat → Nat → Nat) (zm ym : Nat) (g : mm_M) (z y : Nat) (x1 : Int32) (x2 : Int32) : Option (mm_M × Nat × Nat) :=
  mm_ln 1536 1536 (mm_al z (ad 38 0) zm y 1536 ym (mm_let (mm_row g 38 0 (fun _ => 0)) (fun g3 => mm_let (mm_st g3 20 0 19 1) (fun g5 => mm_ln 40 40 (mm_al (z + 1) (ad 39 0) zm (y + 1536) 40 ym (mm_let (mm_row g5 39 0 (fun _ => 0)) (fun g9 => mm_let (mm_st g9 20 0 21 1) (fun g11 => v_Mo_init_b156 n ad zm ym g11 ((z + 1) + 1) ((y + 1536) + 40) x1 x2))))))))
set_option maxRecDepth 100000 in
set_option maxHeartbeats 4000000 in
theorem wv_Mo_init_b139 {p : Program} {l : Launch} {e : Env} {R : Room} {s : State} {m : MethodId} {args : Array Value} {below : List Frame} {meth : Method} {c : Code} {L : mm_L} {zm ym y0 B z' y' : Nat} {g' : mm_M} {g : mm_M} {z y : Nat} {x1 : Int32} {x2 : Int32} {H : Heap} {locs : List Loc} {ls : Array Slot} {cells slots : Nat} (hX : mm_Y L prog_9_method_1_code 4 "LoanArrowsModel" 1 30 zm ym y0 B p l R s m meth c) (hBL : ∀ h i, mm_lv L.1 h i → B ≤ L.2.1 h i) (h : v_Mo_init_b139 L.1 L.2.1 zm ym g z y x1 x2 = some (g', z', y')) (hP : mm_V B L g H) (hF : ∀ q ∈ locs, B ≤ q.base) (hz : H.size = z) (hcs : cells + s.heap.size = z) (hsy : slots + y0 = y) (hl : lv_has ls 4 [(0, .ref (L.2.1 20 0)), (1, .int x1), (2, .int x2)]) (hlt0 : L.2.1 20 0 < z) : W p l e R s m args below meth c H locs cells slots (mm_QV below L s B y0 g' z' y') (F0 m 139 ls []) := by
  have hX0 := hX
  obtain ⟨hx, hb, hml, hown, hr, hlk, hRf, hRl, hJ, hK, hin0, hB0, hRc, hRs, hA0, hNS⟩ := hX0
  unfold v_Mo_init_b139 at h
  refine lv_aload_n hx hb d_Mo_init_139 rfl (lv_at hl 0 rfl) ?_
  refine lv_sipush (v := 1536) hx hb d_Mo_init_140 (by decide) ?_
  obtain ⟨hn2, hn2b, h⟩ := mm_ln_some h
  obtain ⟨ha1, ha1b, ha1c, h⟩ := mm_al_some h
  refine mm_vnewa (atype := .int) (ty := .int) (h := 38) (i := 0) (t := 0) (N := 1536) hX hP mm_ls38 (by omega) rfl (mm_ceI _ _) rfl rfl (fun q => q) wt_39 hn2 hn2b (by decide) (by omega) (by omega) d_Mo_init_143 (fun H hzz hP => ?_)
  obtain ⟨g3, e4, h⟩ := mm_let_ex h
  have hP : mm_V B L g3 H := by rw [e4]; exact hP
  replace hz : H.size = z + 1 := by omega
  replace hcs := mm_pl 1 hcs
  replace hsy := mm_pl 1536 hsy
  clear hzz ha1b ha1c
  refine mm_vput (h := 20) (i := 0) 19 1 hX hP hF mm_ls20 (by omega) (hBL _ _ mm_ls20) rfl rfl rfl uin_20 ty_20 tyok_20 nmok_20 (by decide) ⟨rfl, rfl, rfl⟩ (Or.inr ⟨rfl, rfl⟩) wt_631 rfl rfl rfl (Nat.le_of_ble_eq_true rfl) d_Mo_init_145 (fun H locs hzz hP hF => ?_)
  obtain ⟨g5, e6, h⟩ := mm_let_ex h
  have hP : mm_V B L g5 H := by rw [e6]; exact hP
  replace hz : H.size = (z + 1) := by omega
  clear hzz
  refine lv_aload_n hx hb d_Mo_init_148 rfl (lv_at hl 0 rfl) ?_
  refine lv_bipush (v := 40) hx hb d_Mo_init_149 (by decide) ?_
  obtain ⟨hn8, hn8b, h⟩ := mm_ln_some h
  obtain ⟨ha7, ha7b, ha7c, h⟩ := mm_al_some h
  refine mm_vnewa (atype := .int) (ty := .int) (h := 39) (i := 0) (t := 0) (N := 40) hX hP mm_ls39 (by omega) rfl (mm_ceI _ _) rfl rfl (fun q => q) wt_39 hn8 hn8b (by decide) (by omega) (by omega) d_Mo_init_151 (fun H hzz hP => ?_)
  obtain ⟨g9, e10, h⟩ := mm_let_ex h
  have hP : mm_V B L g9 H := by rw [e10]; exact hP
  replace hz : H.size = (z + 1) + 1 := by omega
  replace hcs := mm_pl 1 hcs
  replace hsy := mm_pl 40 hsy
  clear hzz ha7b ha7c
  refine mm_vput (h := 20) (i := 0) 21 1 hX hP hF mm_ls20 (by omega) (hBL _ _ mm_ls20) rfl rfl rfl uin_20 ty_20 tyok_20 nmok_20 (by decide) ⟨rfl, rfl, rfl⟩ (Or.inr ⟨rfl, rfl⟩) wt_633 rfl rfl rfl (Nat.le_of_ble_eq_true rfl) d_Mo_init_153 (fun H locs hzz hP hF => ?_)
  obtain ⟨g11, e12, h⟩ := mm_let_ex h
  have hP : mm_V B L g11 H := by rw [e12]; exact hP
  replace hz : H.size = ((z + 1) + 1) := by omega
  clear hzz
  exact wv_Mo_init_b156 hX hBL h hP hF hz hcs hsy (lv_sub (l' := [(0, .ref (L.2.1 20 0)), (1, .int x1), (2, .int x2)]) hl [0, 1, 2] rfl) (by omega)
def v_Mo_init_b122 (n : Nat) (ad : Nat → Nat → Nat) (zm ym : Nat) (g : mm_M) (z y : Nat) (x1 : Int32) (x2 : Int32) : Option (mm_M × Nat × Nat) :=
  mm_ln 24 24 (mm_al z (ad 36 0) zm y 24 ym (mm_let (mm_row g 36 0 (fun _ => 0)) (fun g3 => mm_let (mm_st g3 20 0 17 1) (fun g5 => mm_ln 1536 1536 (mm_al (z + 1) (ad 37 0) zm (y + 24) 1536 ym (mm_let (mm_row g5 37 0 (fun _ => 0)) (fun g9 => mm_let (mm_st g9 20 0 18 1) (fun g11 => v_Mo_init_b139 n ad zm ym g11 ((z + 1) + 1) ((y + 24) + 1536) x1 x2))))))))
set_option maxRecDepth 100000 in
set_option maxHeartbeats 4000000 in
theorem wv_Mo_init_b122 {p : Program} {l : Launch} {e : Env} {R : Room} {s : State} {m : MethodId} {args : Array Value} {below : List Frame} {meth : Method} {c : Code} {L : mm_L} {zm ym y0 B z' y' : Nat} {g' : mm_M} {g : mm_M} {z y : Nat} {x1 : Int32} {x2 : Int32} {H : Heap} {locs : List Loc} {ls : Array Slot} {cells slots : Nat} (hX : mm_Y L prog_9_method_1_code 4 "LoanArrowsModel" 1 30 zm ym y0 B p l R s m meth c) (hBL : ∀ h i, mm_lv L.1 h i → B ≤ L.2.1 h i) (h : v_Mo_init_b122 L.1 L.2.1 zm ym g z y x1 x2 = some (g', z', y')) (hP : mm_V B L g H) (hF : ∀ q ∈ locs, B ≤ q.base) (hz : H.size = z) (hcs : cells + s.heap.size = z) (hsy : slots + y0 = y) (hl : lv_has ls 4 [(0, .ref (L.2.1 20 0)), (1, .int x1), (2, .int x2)]) (hlt0 : L.2.1 20 0 < z) : W p l e R s m args below meth c H locs cells slots (mm_QV below L s B y0 g' z' y') (F0 m 122 ls []) := by
  have hX0 := hX
  obtain ⟨hx, hb, hml, hown, hr, hlk, hRf, hRl, hJ, hK, hin0, hB0, hRc, hRs, hA0, hNS⟩ := hX0
  unfold v_Mo_init_b122 at h
  refine lv_aload_n hx hb d_Mo_init_122 rfl (lv_at hl 0 rfl) ?_
  refine lv_bipush (v := 24) hx hb d_Mo_init_123 (by decide) ?_
  obtain ⟨hn2, hn2b, h⟩ := mm_ln_some h
  obtain ⟨ha1, ha1b, ha1c, h⟩ := mm_al_some h
  refine mm_vnewa (atype := .int) (ty := .int) (h := 36) (i := 0) (t := 0) (N := 24) hX hP mm_ls36 (by omega) rfl (mm_ceI _ _) rfl rfl (fun q => q) wt_39 hn2 hn2b (by decide) (by omega) (by omega) d_Mo_init_125 (fun H hzz hP => ?_)
  obtain ⟨g3, e4, h⟩ := mm_let_ex h
  have hP : mm_V B L g3 H := by rw [e4]; exact hP
  replace hz : H.size = z + 1 := by omega
  replace hcs := mm_pl 1 hcs
  replace hsy := mm_pl 24 hsy
  clear hzz ha1b ha1c
  refine mm_vput (h := 20) (i := 0) 17 1 hX hP hF mm_ls20 (by omega) (hBL _ _ mm_ls20) rfl rfl rfl uin_20 ty_20 tyok_20 nmok_20 (by decide) ⟨rfl, rfl, rfl⟩ (Or.inr ⟨rfl, rfl⟩) wt_629 rfl rfl rfl (Nat.le_of_ble_eq_true rfl) d_Mo_init_127 (fun H locs hzz hP hF => ?_)
  obtain ⟨g5, e6, h⟩ := mm_let_ex h
  have hP : mm_V B L g5 H := by rw [e6]; exact hP
  replace hz : H.size = (z + 1) := by omega
  clear hzz
  refine lv_aload_n hx hb d_Mo_init_130 rfl (lv_at hl 0 rfl) ?_
  refine lv_sipush (v := 1536) hx hb d_Mo_init_131 (by decide) ?_
  obtain ⟨hn8, hn8b, h⟩ := mm_ln_some h
  obtain ⟨ha7, ha7b, ha7c, h⟩ := mm_al_some h
  refine mm_vnewa (atype := .int) (ty := .int) (h := 37) (i := 0) (t := 0) (N := 1536) hX hP mm_ls37 (by omega) rfl (mm_ceI _ _) rfl rfl (fun q => q) wt_39 hn8 hn8b (by decide) (by omega) (by omega) d_Mo_init_134 (fun H hzz hP => ?_)
  obtain ⟨g9, e10, h⟩ := mm_let_ex h
  have hP : mm_V B L g9 H := by rw [e10]; exact hP
  replace hz : H.size = (z + 1) + 1 := by omega
  replace hcs := mm_pl 1 hcs
  replace hsy := mm_pl 1536 hsy
  clear hzz ha7b ha7c
  refine mm_vput (h := 20) (i := 0) 18 1 hX hP hF mm_ls20 (by omega) (hBL _ _ mm_ls20) rfl rfl rfl uin_20 ty_20 tyok_20 nmok_20 (by decide) ⟨rfl, rfl, rfl⟩ (Or.inr ⟨rfl, rfl⟩) wt_630 rfl rfl rfl (Nat.le_of_ble_eq_true rfl) d_Mo_init_136 (fun H locs hzz hP hF => ?_)
  obtain ⟨g11, e12, h⟩ := mm_let_ex h
  have hP : mm_V B L g11 H := by rw [e12]; exact hP
  replace hz : H.size = ((z + 1) + 1) := by omega
  clear hzz
  exact wv_Mo_init_b139 hX hBL h hP hF hz hcs hsy (lv_sub (l' := [(0, .ref (L.2.1 20 0)), (1, .int x1), (2, .int x2)]) hl [0, 1, 2] rfl) (by omega)
def v_Mo_init_b106 (n : Nat) (ad : Nat → Nat → Nat) (zm ym : Nat) (g : mm_M) (z y : Nat) (x1 : Int32) (x2 : Int32) : Option (mm_M × Nat × Nat) :=
  mm_ln 24 24 (mm_al z (ad 34 0) zm y 24 ym (mm_let (mm_row g 34 0 (fun _ => 0)) (fun g3 => mm_let (mm_st g3 20 0 15 1) (fun g5 => mm_ln 24 24 (mm_al (z + 1) (ad 35 0) zm (y + 24) 24 ym (mm_let (mm_row g5 35 0 (fun _ => 0)) (fun g9 => mm_let (mm_st g9 20 0 16 1) (fun g11 => v_Mo_init_b122 n ad zm ym g11 ((z + 1) + 1) ((y + 24) + 24) x1 x2))))))))
set_option maxRecDepth 100000 in
set_option maxHeartbeats 4000000 in
theorem wv_Mo_init_b106 {p : Program} {l : Launch} {e : Env} {R : Room} {s : State} {m : MethodId} {args : Array Value} {below : List Frame} {meth : Method} {c : Code} {L : mm_L} {zm ym y0 B z' y' : Nat} {g' : mm_M} {g : mm_M} {z y : Nat} {x1 : Int32} {x2 : Int32} {H : Heap} {locs : List Loc} {ls : Array Slot} {cells slots : Nat} (hX : mm_Y L prog_9_method_1_code 4 "LoanArrowsModel" 1 30 zm ym y0 B p l R s m meth c) (hBL : ∀ h i, mm_lv L.1 h i → B ≤ L.2.1 h i) (h : v_Mo_init_b106 L.1 L.2.1 zm ym g z y x1 x2 = some (g', z', y')) (hP : mm_V B L g H) (hF : ∀ q ∈ locs, B ≤ q.base) (hz : H.size = z) (hcs : cells + s.heap.size = z) (hsy : slots + y0 = y) (hl : lv_has ls 4 [(0, .ref (L.2.1 20 0)), (1, .int x1), (2, .int x2)]) (hlt0 : L.2.1 20 0 < z) : W p l e R s m args below meth c H locs cells slots (mm_QV below L s B y0 g' z' y') (F0 m 106 ls []) := by
  have hX0 := hX
  obtain ⟨hx, hb, hml, hown, hr, hlk, hRf, hRl, hJ, hK, hin0, hB0, hRc, hRs, hA0, hNS⟩ := hX0
  unfold v_Mo_init_b106 at h
  refine lv_aload_n hx hb d_Mo_init_106 rfl (lv_at hl 0 rfl) ?_
  refine lv_bipush (v := 24) hx hb d_Mo_init_107 (by decide) ?_
  obtain ⟨hn2, hn2b, h⟩ := mm_ln_some h
  obtain ⟨ha1, ha1b, ha1c, h⟩ := mm_al_some h
  refine mm_vnewa (atype := .int) (ty := .int) (h := 34) (i := 0) (t := 0) (N := 24) hX hP mm_ls34 (by omega) rfl (mm_ceI _ _) rfl rfl (fun q => q) wt_39 hn2 hn2b (by decide) (by omega) (by omega) d_Mo_init_109 (fun H hzz hP => ?_)
  obtain ⟨g3, e4, h⟩ := mm_let_ex h
  have hP : mm_V B L g3 H := by rw [e4]; exact hP
  replace hz : H.size = z + 1 := by omega
  replace hcs := mm_pl 1 hcs
  replace hsy := mm_pl 24 hsy
  clear hzz ha1b ha1c
  refine mm_vput (h := 20) (i := 0) 15 1 hX hP hF mm_ls20 (by omega) (hBL _ _ mm_ls20) rfl rfl rfl uin_20 ty_20 tyok_20 nmok_20 (by decide) ⟨rfl, rfl, rfl⟩ (Or.inr ⟨rfl, rfl⟩) wt_627 rfl rfl rfl (Nat.le_of_ble_eq_true rfl) d_Mo_init_111 (fun H locs hzz hP hF => ?_)
  obtain ⟨g5, e6, h⟩ := mm_let_ex h
  have hP : mm_V B L g5 H := by rw [e6]; exact hP
  replace hz : H.size = (z + 1) := by omega
  clear hzz
  refine lv_aload_n hx hb d_Mo_init_114 rfl (lv_at hl 0 rfl) ?_
  refine lv_bipush (v := 24) hx hb d_Mo_init_115 (by decide) ?_
  obtain ⟨hn8, hn8b, h⟩ := mm_ln_some h
  obtain ⟨ha7, ha7b, ha7c, h⟩ := mm_al_some h
  refine mm_vnewa (atype := .int) (ty := .int) (h := 35) (i := 0) (t := 0) (N := 24) hX hP mm_ls35 (by omega) rfl (mm_ceI _ _) rfl rfl (fun q => q) wt_39 hn8 hn8b (by decide) (by omega) (by omega) d_Mo_init_117 (fun H hzz hP => ?_)
  obtain ⟨g9, e10, h⟩ := mm_let_ex h
  have hP : mm_V B L g9 H := by rw [e10]; exact hP
  replace hz : H.size = (z + 1) + 1 := by omega
  replace hcs := mm_pl 1 hcs
  replace hsy := mm_pl 24 hsy
  clear hzz ha7b ha7c
  refine mm_vput (h := 20) (i := 0) 16 1 hX hP hF mm_ls20 (by omega) (hBL _ _ mm_ls20) rfl rfl rfl uin_20 ty_20 tyok_20 nmok_20 (by decide) ⟨rfl, rfl, rfl⟩ (Or.inr ⟨rfl, rfl⟩) wt_628 rfl rfl rfl (Nat.le_of_ble_eq_true rfl) d_Mo_init_119 (fun H locs hzz hP hF => ?_)
  obtain ⟨g11, e12, h⟩ := mm_let_ex h
  have hP : mm_V B L g11 H := by rw [e12]; exact hP
  replace hz : H.size = ((z + 1) + 1) := by omega
  clear hzz
  exact wv_Mo_init_b122 hX hBL h hP hF hz hcs hsy (lv_sub (l' := [(0, .ref (L.2.1 20 0)), (1, .int x1), (2, .int x2)]) hl [0, 1, 2] rfl) (by omega)
def v_Mo_init_b90 (n : Nat) (ad : Nat → Nat → Nat) (zm ym : Nat) (g : mm_M) (z y : Nat) (x1 : Int32) (x2 : Int32) : Option (mm_M × Nat × Nat) :=
  mm_ln 3 3 (mm_al z (ad 32 0) zm y 3 ym (mm_let (mm_row g 32 0 (fun _ => 0)) (fun g3 => mm_let (mm_st g3 20 0 13 1) (fun g5 => mm_ln 600 600 (mm_al (z + 1) (ad 33 0) zm (y + 3) 600 ym (mm_let (mm_row g5 33 0 (fun _ => 0)) (fun g9 => mm_let (mm_st g9 20 0 14 1) (fun g11 => v_Mo_init_b106 n ad zm ym g11 ((z + 1) + 1) ((y + 3) + 600) x1 x2))))))))
set_option maxRecDepth 100000 in
set_option maxHeartbeats 4000000 in
theorem wv_Mo_init_b90 {p : Program} {l : Launch} {e : Env} {R : Room} {s : State} {m : MethodId} {args : Array Value} {below : List Frame} {meth : Method} {c : Code} {L : mm_L} {zm ym y0 B z' y' : Nat} {g' : mm_M} {g : mm_M} {z y : Nat} {x1 : Int32} {x2 : Int32} {H : Heap} {locs : List Loc} {ls : Array Slot} {cells slots : Nat} (hX : mm_Y L prog_9_method_1_code 4 "LoanArrowsModel" 1 30 zm ym y0 B p l R s m meth c) (hBL : ∀ h i, mm_lv L.1 h i → B ≤ L.2.1 h i) (h : v_Mo_init_b90 L.1 L.2.1 zm ym g z y x1 x2 = some (g', z', y')) (hP : mm_V B L g H) (hF : ∀ q ∈ locs, B ≤ q.base) (hz : H.size = z) (hcs : cells + s.heap.size = z) (hsy : slots + y0 = y) (hl : lv_has ls 4 [(0, .ref (L.2.1 20 0)), (1, .int x1), (2, .int x2)]) (hlt0 : L.2.1 20 0 < z) : W p l e R s m args below meth c H locs cells slots (mm_QV below L s B y0 g' z' y') (F0 m 90 ls []) := by
  have hX0 := hX
  obtain ⟨hx, hb, hml, hown, hr, hlk, hRf, hRl, hJ, hK, hin0, hB0, hRc, hRs, hA0, hNS⟩ := hX0
  unfold v_Mo_init_b90 at h
  refine lv_aload_n hx hb d_Mo_init_90 rfl (lv_at hl 0 rfl) ?_
  refine lv_iconst (v := 3) hx hb d_Mo_init_91 (by decide) ?_
  obtain ⟨hn2, hn2b, h⟩ := mm_ln_some h
  obtain ⟨ha1, ha1b, ha1c, h⟩ := mm_al_some h
  refine mm_vnewa (atype := .int) (ty := .int) (h := 32) (i := 0) (t := 0) (N := 3) hX hP mm_ls32 (by omega) rfl (mm_ceI _ _) rfl rfl (fun q => q) wt_39 hn2 hn2b (by decide) (by omega) (by omega) d_Mo_init_92 (fun H hzz hP => ?_)
  obtain ⟨g3, e4, h⟩ := mm_let_ex h
  have hP : mm_V B L g3 H := by rw [e4]; exact hP
  replace hz : H.size = z + 1 := by omega
  replace hcs := mm_pl 1 hcs
  replace hsy := mm_pl 3 hsy
  clear hzz ha1b ha1c
  refine mm_vput (h := 20) (i := 0) 13 1 hX hP hF mm_ls20 (by omega) (hBL _ _ mm_ls20) rfl rfl rfl uin_20 ty_20 tyok_20 nmok_20 (by decide) ⟨rfl, rfl, rfl⟩ (Or.inr ⟨rfl, rfl⟩) wt_625 rfl rfl rfl (Nat.le_of_ble_eq_true rfl) d_Mo_init_94 (fun H locs hzz hP hF => ?_)
  obtain ⟨g5, e6, h⟩ := mm_let_ex h
  have hP : mm_V B L g5 H := by rw [e6]; exact hP
  replace hz : H.size = (z + 1) := by omega
  clear hzz
  refine lv_aload_n hx hb d_Mo_init_97 rfl (lv_at hl 0 rfl) ?_
  refine lv_sipush (v := 600) hx hb d_Mo_init_98 (by decide) ?_
  obtain ⟨hn8, hn8b, h⟩ := mm_ln_some h
  obtain ⟨ha7, ha7b, ha7c, h⟩ := mm_al_some h
  refine mm_vnewa (atype := .int) (ty := .int) (h := 33) (i := 0) (t := 0) (N := 600) hX hP mm_ls33 (by omega) rfl (mm_ceI _ _) rfl rfl (fun q => q) wt_39 hn8 hn8b (by decide) (by omega) (by omega) d_Mo_init_101 (fun H hzz hP => ?_)
  obtain ⟨g9, e10, h⟩ := mm_let_ex h
  have hP : mm_V B L g9 H := by rw [e10]; exact hP
  replace hz : H.size = (z + 1) + 1 := by omega
  replace hcs := mm_pl 1 hcs
  replace hsy := mm_pl 600 hsy
  clear hzz ha7b ha7c
  refine mm_vput (h := 20) (i := 0) 14 1 hX hP hF mm_ls20 (by omega) (hBL _ _ mm_ls20) rfl rfl rfl uin_20 ty_20 tyok_20 nmok_20 (by decide) ⟨rfl, rfl, rfl⟩ (Or.inr ⟨rfl, rfl⟩) wt_626 rfl rfl rfl (Nat.le_of_ble_eq_true rfl) d_Mo_init_103 (fun H locs hzz hP hF => ?_)
  obtain ⟨g11, e12, h⟩ := mm_let_ex h
  have hP : mm_V B L g11 H := by rw [e12]; exact hP
  replace hz : H.size = ((z + 1) + 1) := by omega
  clear hzz
  exact wv_Mo_init_b106 hX hBL h hP hF hz hcs hsy (lv_sub (l' := [(0, .ref (L.2.1 20 0)), (1, .int x1), (2, .int x2)]) hl [0, 1, 2] rfl) (by omega)
def v_Mo_init_b76 (n : Nat) (ad : Nat → Nat → Nat) (zm ym : Nat) (g : mm_M) (z y : Nat) (x1 : Int32) (x2 : Int32) : Option (mm_M × Nat × Nat) :=
  mm_ln 3 3 (mm_al z (ad 30 0) zm y 3 ym (mm_let (mm_row g 30 0 (fun _ => 0)) (fun g3 => mm_let (mm_st g3 20 0 11 1) (fun g5 => mm_ln 3 3 (mm_al (z + 1) (ad 31 0) zm (y + 3) 3 ym (mm_let (mm_row g5 31 0 (fun _ => 0)) (fun g9 => mm_let (mm_st g9 20 0 12 1) (fun g11 => v_Mo_init_b90 n ad zm ym g11 ((z + 1) + 1) ((y + 3) + 3) x1 x2))))))))
set_option maxRecDepth 100000 in
set_option maxHeartbeats 4000000 in
theorem wv_Mo_init_b76 {p : Program} {l : Launch} {e : Env} {R : Room} {s : State} {m : MethodId} {args : Array Value} {below : List Frame} {meth : Method} {c : Code} {L : mm_L} {zm ym y0 B z' y' : Nat} {g' : mm_M} {g : mm_M} {z y : Nat} {x1 : Int32} {x2 : Int32} {H : Heap} {locs : List Loc} {ls : Array Slot} {cells slots : Nat} (hX : mm_Y L prog_9_method_1_code 4 "LoanArrowsModel" 1 30 zm ym y0 B p l R s m meth c) (hBL : ∀ h i, mm_lv L.1 h i → B ≤ L.2.1 h i) (h : v_Mo_init_b76 L.1 L.2.1 zm ym g z y x1 x2 = some (g', z', y')) (hP : mm_V B L g H) (hF : ∀ q ∈ locs, B ≤ q.base) (hz : H.size = z) (hcs : cells + s.heap.size = z) (hsy : slots + y0 = y) (hl : lv_has ls 4 [(0, .ref (L.2.1 20 0)), (1, .int x1), (2, .int x2)]) (hlt0 : L.2.1 20 0 < z) : W p l e R s m args below meth c H locs cells slots (mm_QV below L s B y0 g' z' y') (F0 m 76 ls []) := by
  have hX0 := hX
  obtain ⟨hx, hb, hml, hown, hr, hlk, hRf, hRl, hJ, hK, hin0, hB0, hRc, hRs, hA0, hNS⟩ := hX0
  unfold v_Mo_init_b76 at h
  refine lv_aload_n hx hb d_Mo_init_76 rfl (lv_at hl 0 rfl) ?_
  refine lv_iconst (v := 3) hx hb d_Mo_init_77 (by decide) ?_
  obtain ⟨hn2, hn2b, h⟩ := mm_ln_some h
  obtain ⟨ha1, ha1b, ha1c, h⟩ := mm_al_some h
  refine mm_vnewa (atype := .int) (ty := .int) (h := 30) (i := 0) (t := 0) (N := 3) hX hP mm_ls30 (by omega) rfl (mm_ceI _ _) rfl rfl (fun q => q) wt_39 hn2 hn2b (by decide) (by omega) (by omega) d_Mo_init_78 (fun H hzz hP => ?_)
  obtain ⟨g3, e4, h⟩ := mm_let_ex h
  have hP : mm_V B L g3 H := by rw [e4]; exact hP
  replace hz : H.size = z + 1 := by omega
  replace hcs := mm_pl 1 hcs
  replace hsy := mm_pl 3 hsy
  clear hzz ha1b ha1c
  refine mm_vput (h := 20) (i := 0) 11 1 hX hP hF mm_ls20 (by omega) (hBL _ _ mm_ls20) rfl rfl rfl uin_20 ty_20 tyok_20 nmok_20 (by decide) ⟨rfl, rfl, rfl⟩ (Or.inr ⟨rfl, rfl⟩) wt_623 rfl rfl rfl (Nat.le_of_ble_eq_true rfl) d_Mo_init_80 (fun H locs hzz hP hF => ?_)
  obtain ⟨g5, e6, h⟩ := mm_let_ex h
  have hP : mm_V B L g5 H := by rw [e6]; exact hP
  replace hz : H.size = (z + 1) := by omega
  clear hzz
  refine lv_aload_n hx hb d_Mo_init_83 rfl (lv_at hl 0 rfl) ?_
  refine lv_iconst (v := 3) hx hb d_Mo_init_84 (by decide) ?_
  obtain ⟨hn8, hn8b, h⟩ := mm_ln_some h
  obtain ⟨ha7, ha7b, ha7c, h⟩ := mm_al_some h
  refine mm_vnewa (atype := .boolean) (ty := .boolean) (h := 31) (i := 0) (t := 1) (N := 3) hX hP mm_ls31 (by omega) rfl (mm_ceZ _ _) rfl rfl (fun q => q) wt_38 hn8 hn8b (by decide) (by omega) (by omega) d_Mo_init_85 (fun H hzz hP => ?_)
  obtain ⟨g9, e10, h⟩ := mm_let_ex h
  have hP : mm_V B L g9 H := by rw [e10]; exact hP
  replace hz : H.size = (z + 1) + 1 := by omega
  replace hcs := mm_pl 1 hcs
  replace hsy := mm_pl 3 hsy
  clear hzz ha7b ha7c
  refine mm_vput (h := 20) (i := 0) 12 1 hX hP hF mm_ls20 (by omega) (hBL _ _ mm_ls20) rfl rfl rfl uin_20 ty_20 tyok_20 nmok_20 (by decide) ⟨rfl, rfl, rfl⟩ (Or.inr ⟨rfl, rfl⟩) wt_624 rfl rfl rfl (Nat.le_of_ble_eq_true rfl) d_Mo_init_87 (fun H locs hzz hP hF => ?_)
  obtain ⟨g11, e12, h⟩ := mm_let_ex h
  have hP : mm_V B L g11 H := by rw [e12]; exact hP
  replace hz : H.size = ((z + 1) + 1) := by omega
  clear hzz
  exact wv_Mo_init_b90 hX hBL h hP hF hz hcs hsy (lv_sub (l' := [(0, .ref (L.2.1 20 0)), (1, .int x1), (2, .int x2)]) hl [0, 1, 2] rfl) (by omega)
def v_Mo_init_b59 (n : Nat) (ad : Nat → Nat → Nat) (zm ym : Nat) (g : mm_M) (z y : Nat) (x1 : Int32) (x2 : Int32) : Option (mm_M × Nat × Nat) :=
  mm_ln 36 36 (mm_al z (ad 28 0) zm y 36 ym (mm_let (mm_row g 28 0 (fun _ => 0)) (fun g3 => mm_let (mm_st g3 20 0 9 1) (fun g5 => mm_ln 144 144 (mm_al (z + 1) (ad 29 0) zm (y + 36) 144 ym (mm_let (mm_row g5 29 0 (fun _ => 0)) (fun g9 => mm_let (mm_st g9 20 0 10 1) (fun g11 => v_Mo_init_b76 n ad zm ym g11 ((z + 1) + 1) ((y + 36) + 144) x1 x2))))))))
set_option maxRecDepth 100000 in
set_option maxHeartbeats 4000000 in
theorem wv_Mo_init_b59 {p : Program} {l : Launch} {e : Env} {R : Room} {s : State} {m : MethodId} {args : Array Value} {below : List Frame} {meth : Method} {c : Code} {L : mm_L} {zm ym y0 B z' y' : Nat} {g' : mm_M} {g : mm_M} {z y : Nat} {x1 : Int32} {x2 : Int32} {H : Heap} {locs : List Loc} {ls : Array Slot} {cells slots : Nat} (hX : mm_Y L prog_9_method_1_code 4 "LoanArrowsModel" 1 30 zm ym y0 B p l R s m meth c) (hBL : ∀ h i, mm_lv L.1 h i → B ≤ L.2.1 h i) (h : v_Mo_init_b59 L.1 L.2.1 zm ym g z y x1 x2 = some (g', z', y')) (hP : mm_V B L g H) (hF : ∀ q ∈ locs, B ≤ q.base) (hz : H.size = z) (hcs : cells + s.heap.size = z) (hsy : slots + y0 = y) (hl : lv_has ls 4 [(0, .ref (L.2.1 20 0)), (1, .int x1), (2, .int x2)]) (hlt0 : L.2.1 20 0 < z) : W p l e R s m args below meth c H locs cells slots (mm_QV below L s B y0 g' z' y') (F0 m 59 ls []) := by
  have hX0 := hX
  obtain ⟨hx, hb, hml, hown, hr, hlk, hRf, hRl, hJ, hK, hin0, hB0, hRc, hRs, hA0, hNS⟩ := hX0
  unfold v_Mo_init_b59 at h
  refine lv_aload_n hx hb d_Mo_init_59 rfl (lv_at hl 0 rfl) ?_
  refine lv_bipush (v := 36) hx hb d_Mo_init_60 (by decide) ?_
  obtain ⟨hn2, hn2b, h⟩ := mm_ln_some h
  obtain ⟨ha1, ha1b, ha1c, h⟩ := mm_al_some h
  refine mm_vnewa (atype := .int) (ty := .int) (h := 28) (i := 0) (t := 0) (N := 36) hX hP mm_ls28 (by omega) rfl (mm_ceI _ _) rfl rfl (fun q => q) wt_39 hn2 hn2b (by decide) (by omega) (by omega) d_Mo_init_62 (fun H hzz hP => ?_)
  obtain ⟨g3, e4, h⟩ := mm_let_ex h
  have hP : mm_V B L g3 H := by rw [e4]; exact hP
  replace hz : H.size = z + 1 := by omega
  replace hcs := mm_pl 1 hcs
  replace hsy := mm_pl 36 hsy
  clear hzz ha1b ha1c
  refine mm_vput (h := 20) (i := 0) 9 1 hX hP hF mm_ls20 (by omega) (hBL _ _ mm_ls20) rfl rfl rfl uin_20 ty_20 tyok_20 nmok_20 (by decide) ⟨rfl, rfl, rfl⟩ (Or.inr ⟨rfl, rfl⟩) wt_621 rfl rfl rfl (Nat.le_of_ble_eq_true rfl) d_Mo_init_64 (fun H locs hzz hP hF => ?_)
  obtain ⟨g5, e6, h⟩ := mm_let_ex h
  have hP : mm_V B L g5 H := by rw [e6]; exact hP
  replace hz : H.size = (z + 1) := by omega
  clear hzz
  refine lv_aload_n hx hb d_Mo_init_67 rfl (lv_at hl 0 rfl) ?_
  refine lv_sipush (v := 144) hx hb d_Mo_init_68 (by decide) ?_
  obtain ⟨hn8, hn8b, h⟩ := mm_ln_some h
  obtain ⟨ha7, ha7b, ha7c, h⟩ := mm_al_some h
  refine mm_vnewa (atype := .int) (ty := .int) (h := 29) (i := 0) (t := 0) (N := 144) hX hP mm_ls29 (by omega) rfl (mm_ceI _ _) rfl rfl (fun q => q) wt_39 hn8 hn8b (by decide) (by omega) (by omega) d_Mo_init_71 (fun H hzz hP => ?_)
  obtain ⟨g9, e10, h⟩ := mm_let_ex h
  have hP : mm_V B L g9 H := by rw [e10]; exact hP
  replace hz : H.size = (z + 1) + 1 := by omega
  replace hcs := mm_pl 1 hcs
  replace hsy := mm_pl 144 hsy
  clear hzz ha7b ha7c
  refine mm_vput (h := 20) (i := 0) 10 1 hX hP hF mm_ls20 (by omega) (hBL _ _ mm_ls20) rfl rfl rfl uin_20 ty_20 tyok_20 nmok_20 (by decide) ⟨rfl, rfl, rfl⟩ (Or.inr ⟨rfl, rfl⟩) wt_622 rfl rfl rfl (Nat.le_of_ble_eq_true rfl) d_Mo_init_73 (fun H locs hzz hP hF => ?_)
  obtain ⟨g11, e12, h⟩ := mm_let_ex h
  have hP : mm_V B L g11 H := by rw [e12]; exact hP
  replace hz : H.size = ((z + 1) + 1) := by omega
  clear hzz
  exact wv_Mo_init_b76 hX hBL h hP hF hz hcs hsy (lv_sub (l' := [(0, .ref (L.2.1 20 0)), (1, .int x1), (2, .int x2)]) hl [0, 1, 2] rfl) (by omega)
def v_Mo_init_b43 (n : Nat) (ad : Nat → Nat → Nat) (zm ym : Nat) (g : mm_M) (z y : Nat) (x1 : Int32) (x2 : Int32) : Option (mm_M × Nat × Nat) :=
  mm_ln 36 36 (mm_al z (ad 26 0) zm y 36 ym (mm_let (mm_row g 26 0 (fun _ => 0)) (fun g3 => mm_let (mm_st g3 20 0 7 1) (fun g5 => mm_ln 36 36 (mm_al (z + 1) (ad 27 0) zm (y + 36) 36 ym (mm_let (mm_row g5 27 0 (fun _ => 0)) (fun g9 => mm_let (mm_st g9 20 0 8 1) (fun g11 => v_Mo_init_b59 n ad zm ym g11 ((z + 1) + 1) ((y + 36) + 36) x1 x2))))))))
set_option maxRecDepth 100000 in
set_option maxHeartbeats 4000000 in
theorem wv_Mo_init_b43 {p : Program} {l : Launch} {e : Env} {R : Room} {s : State} {m : MethodId} {args : Array Value} {below : List Frame} {meth : Method} {c : Code} {L : mm_L} {zm ym y0 B z' y' : Nat} {g' : mm_M} {g : mm_M} {z y : Nat} {x1 : Int32} {x2 : Int32} {H : Heap} {locs : List Loc} {ls : Array Slot} {cells slots : Nat} (hX : mm_Y L prog_9_method_1_code 4 "LoanArrowsModel" 1 30 zm ym y0 B p l R s m meth c) (hBL : ∀ h i, mm_lv L.1 h i → B ≤ L.2.1 h i) (h : v_Mo_init_b43 L.1 L.2.1 zm ym g z y x1 x2 = some (g', z', y')) (hP : mm_V B L g H) (hF : ∀ q ∈ locs, B ≤ q.base) (hz : H.size = z) (hcs : cells + s.heap.size = z) (hsy : slots + y0 = y) (hl : lv_has ls 4 [(0, .ref (L.2.1 20 0)), (1, .int x1), (2, .int x2)]) (hlt0 : L.2.1 20 0 < z) : W p l e R s m args below meth c H locs cells slots (mm_QV below L s B y0 g' z' y') (F0 m 43 ls []) := by
  have hX0 := hX
  obtain ⟨hx, hb, hml, hown, hr, hlk, hRf, hRl, hJ, hK, hin0, hB0, hRc, hRs, hA0, hNS⟩ := hX0
  unfold v_Mo_init_b43 at h
  refine lv_aload_n hx hb d_Mo_init_43 rfl (lv_at hl 0 rfl) ?_
  refine lv_bipush (v := 36) hx hb d_Mo_init_44 (by decide) ?_
  obtain ⟨hn2, hn2b, h⟩ := mm_ln_some h
  obtain ⟨ha1, ha1b, ha1c, h⟩ := mm_al_some h
  refine mm_vnewa (atype := .int) (ty := .int) (h := 26) (i := 0) (t := 0) (N := 36) hX hP mm_ls26 (by omega) rfl (mm_ceI _ _) rfl rfl (fun q => q) wt_39 hn2 hn2b (by decide) (by omega) (by omega) d_Mo_init_46 (fun H hzz hP => ?_)
  obtain ⟨g3, e4, h⟩ := mm_let_ex h
  have hP : mm_V B L g3 H := by rw [e4]; exact hP
  replace hz : H.size = z + 1 := by omega
  replace hcs := mm_pl 1 hcs
  replace hsy := mm_pl 36 hsy
  clear hzz ha1b ha1c
  refine mm_vput (h := 20) (i := 0) 7 1 hX hP hF mm_ls20 (by omega) (hBL _ _ mm_ls20) rfl rfl rfl uin_20 ty_20 tyok_20 nmok_20 (by decide) ⟨rfl, rfl, rfl⟩ (Or.inr ⟨rfl, rfl⟩) wt_619 rfl rfl rfl (Nat.le_of_ble_eq_true rfl) d_Mo_init_48 (fun H locs hzz hP hF => ?_)
  obtain ⟨g5, e6, h⟩ := mm_let_ex h
  have hP : mm_V B L g5 H := by rw [e6]; exact hP
  replace hz : H.size = (z + 1) := by omega
  clear hzz
  refine lv_aload_n hx hb d_Mo_init_51 rfl (lv_at hl 0 rfl) ?_
  refine lv_bipush (v := 36) hx hb d_Mo_init_52 (by decide) ?_
  obtain ⟨hn8, hn8b, h⟩ := mm_ln_some h
  obtain ⟨ha7, ha7b, ha7c, h⟩ := mm_al_some h
  refine mm_vnewa (atype := .int) (ty := .int) (h := 27) (i := 0) (t := 0) (N := 36) hX hP mm_ls27 (by omega) rfl (mm_ceI _ _) rfl rfl (fun q => q) wt_39 hn8 hn8b (by decide) (by omega) (by omega) d_Mo_init_54 (fun H hzz hP => ?_)
  obtain ⟨g9, e10, h⟩ := mm_let_ex h
  have hP : mm_V B L g9 H := by rw [e10]; exact hP
  replace hz : H.size = (z + 1) + 1 := by omega
  replace hcs := mm_pl 1 hcs
  replace hsy := mm_pl 36 hsy
  clear hzz ha7b ha7c
  refine mm_vput (h := 20) (i := 0) 8 1 hX hP hF mm_ls20 (by omega) (hBL _ _ mm_ls20) rfl rfl rfl uin_20 ty_20 tyok_20 nmok_20 (by decide) ⟨rfl, rfl, rfl⟩ (Or.inr ⟨rfl, rfl⟩) wt_620 rfl rfl rfl (Nat.le_of_ble_eq_true rfl) d_Mo_init_56 (fun H locs hzz hP hF => ?_)
  obtain ⟨g11, e12, h⟩ := mm_let_ex h
  have hP : mm_V B L g11 H := by rw [e12]; exact hP
  replace hz : H.size = ((z + 1) + 1) := by omega
  clear hzz
  exact wv_Mo_init_b59 hX hBL h hP hF hz hcs hsy (lv_sub (l' := [(0, .ref (L.2.1 20 0)), (1, .int x1), (2, .int x2)]) hl [0, 1, 2] rfl) (by omega)
def v_Mo_init_b27 (n : Nat) (ad : Nat → Nat → Nat) (zm ym : Nat) (g : mm_M) (z y : Nat) (x1 : Int32) (x2 : Int32) : Option (mm_M × Nat × Nat) :=
  mm_ln 36 36 (mm_al z (ad 24 0) zm y 36 ym (mm_let (mm_row g 24 0 (fun _ => 0)) (fun g3 => mm_let (mm_st g3 20 0 5 1) (fun g5 => mm_ln 36 36 (mm_al (z + 1) (ad 25 0) zm (y + 36) 36 ym (mm_let (mm_row g5 25 0 (fun _ => 0)) (fun g9 => mm_let (mm_st g9 20 0 6 1) (fun g11 => v_Mo_init_b43 n ad zm ym g11 ((z + 1) + 1) ((y + 36) + 36) x1 x2))))))))
set_option maxRecDepth 100000 in
set_option maxHeartbeats 4000000 in
theorem wv_Mo_init_b27 {p : Program} {l : Launch} {e : Env} {R : Room} {s : State} {m : MethodId} {args : Array Value} {below : List Frame} {meth : Method} {c : Code} {L : mm_L} {zm ym y0 B z' y' : Nat} {g' : mm_M} {g : mm_M} {z y : Nat} {x1 : Int32} {x2 : Int32} {H : Heap} {locs : List Loc} {ls : Array Slot} {cells slots : Nat} (hX : mm_Y L prog_9_method_1_code 4 "LoanArrowsModel" 1 30 zm ym y0 B p l R s m meth c) (hBL : ∀ h i, mm_lv L.1 h i → B ≤ L.2.1 h i) (h : v_Mo_init_b27 L.1 L.2.1 zm ym g z y x1 x2 = some (g', z', y')) (hP : mm_V B L g H) (hF : ∀ q ∈ locs, B ≤ q.base) (hz : H.size = z) (hcs : cells + s.heap.size = z) (hsy : slots + y0 = y) (hl : lv_has ls 4 [(0, .ref (L.2.1 20 0)), (1, .int x1), (2, .int x2)]) (hlt0 : L.2.1 20 0 < z) : W p l e R s m args below meth c H locs cells slots (mm_QV below L s B y0 g' z' y') (F0 m 27 ls []) := by
  have hX0 := hX
  obtain ⟨hx, hb, hml, hown, hr, hlk, hRf, hRl, hJ, hK, hin0, hB0, hRc, hRs, hA0, hNS⟩ := hX0
  unfold v_Mo_init_b27 at h
  refine lv_aload_n hx hb d_Mo_init_27 rfl (lv_at hl 0 rfl) ?_
  refine lv_bipush (v := 36) hx hb d_Mo_init_28 (by decide) ?_
  obtain ⟨hn2, hn2b, h⟩ := mm_ln_some h
  obtain ⟨ha1, ha1b, ha1c, h⟩ := mm_al_some h
  refine mm_vnewa (atype := .int) (ty := .int) (h := 24) (i := 0) (t := 0) (N := 36) hX hP mm_ls24 (by omega) rfl (mm_ceI _ _) rfl rfl (fun q => q) wt_39 hn2 hn2b (by decide) (by omega) (by omega) d_Mo_init_30 (fun H hzz hP => ?_)
  obtain ⟨g3, e4, h⟩ := mm_let_ex h
  have hP : mm_V B L g3 H := by rw [e4]; exact hP
  replace hz : H.size = z + 1 := by omega
  replace hcs := mm_pl 1 hcs
  replace hsy := mm_pl 36 hsy
  clear hzz ha1b ha1c
  refine mm_vput (h := 20) (i := 0) 5 1 hX hP hF mm_ls20 (by omega) (hBL _ _ mm_ls20) rfl rfl rfl uin_20 ty_20 tyok_20 nmok_20 (by decide) ⟨rfl, rfl, rfl⟩ (Or.inr ⟨rfl, rfl⟩) wt_617 rfl rfl rfl (Nat.le_of_ble_eq_true rfl) d_Mo_init_32 (fun H locs hzz hP hF => ?_)
  obtain ⟨g5, e6, h⟩ := mm_let_ex h
  have hP : mm_V B L g5 H := by rw [e6]; exact hP
  replace hz : H.size = (z + 1) := by omega
  clear hzz
  refine lv_aload_n hx hb d_Mo_init_35 rfl (lv_at hl 0 rfl) ?_
  refine lv_bipush (v := 36) hx hb d_Mo_init_36 (by decide) ?_
  obtain ⟨hn8, hn8b, h⟩ := mm_ln_some h
  obtain ⟨ha7, ha7b, ha7c, h⟩ := mm_al_some h
  refine mm_vnewa (atype := .int) (ty := .int) (h := 25) (i := 0) (t := 0) (N := 36) hX hP mm_ls25 (by omega) rfl (mm_ceI _ _) rfl rfl (fun q => q) wt_39 hn8 hn8b (by decide) (by omega) (by omega) d_Mo_init_38 (fun H hzz hP => ?_)
  obtain ⟨g9, e10, h⟩ := mm_let_ex h
  have hP : mm_V B L g9 H := by rw [e10]; exact hP
  replace hz : H.size = (z + 1) + 1 := by omega
  replace hcs := mm_pl 1 hcs
  replace hsy := mm_pl 36 hsy
  clear hzz ha7b ha7c
  refine mm_vput (h := 20) (i := 0) 6 1 hX hP hF mm_ls20 (by omega) (hBL _ _ mm_ls20) rfl rfl rfl uin_20 ty_20 tyok_20 nmok_20 (by decide) ⟨rfl, rfl, rfl⟩ (Or.inr ⟨rfl, rfl⟩) wt_618 rfl rfl rfl (Nat.le_of_ble_eq_true rfl) d_Mo_init_40 (fun H locs hzz hP hF => ?_)
  obtain ⟨g11, e12, h⟩ := mm_let_ex h
  have hP : mm_V B L g11 H := by rw [e12]; exact hP
  replace hz : H.size = ((z + 1) + 1) := by omega
  clear hzz
  exact wv_Mo_init_b43 hX hBL h hP hF hz hcs hsy (lv_sub (l' := [(0, .ref (L.2.1 20 0)), (1, .int x1), (2, .int x2)]) hl [0, 1, 2] rfl) (by omega)
def v_Mo_init_b12 (n : Nat) (ad : Nat → Nat → Nat) (zm ym : Nat) (g : mm_M) (z y : Nat) (x1 : Int32) (x2 : Int32) : Option (mm_M × Nat × Nat) :=
  mm_ln 12 12 (mm_al z (ad 22 0) zm y 12 ym (mm_let (mm_row g 22 0 (fun _ => 0)) (fun g3 => mm_let (mm_st g3 20 0 3 1) (fun g5 => mm_ln 3 3 (mm_al (z + 1) (ad 23 0) zm (y + 12) 3 ym (mm_let (mm_row g5 23 0 (fun _ => 0)) (fun g9 => mm_let (mm_st g9 20 0 4 1) (fun g11 => v_Mo_init_b27 n ad zm ym g11 ((z + 1) + 1) ((y + 12) + 3) x1 x2))))))))
set_option maxRecDepth 100000 in
set_option maxHeartbeats 4000000 in
theorem wv_Mo_init_b12 {p : Program} {l : Launch} {e : Env} {R : Room} {s : State} {m : MethodId} {args : Array Value} {below : List Frame} {meth : Method} {c : Code} {L : mm_L} {zm ym y0 B z' y' : Nat} {g' : mm_M} {g : mm_M} {z y : Nat} {x1 : Int32} {x2 : Int32} {H : Heap} {locs : List Loc} {ls : Array Slot} {cells slots : Nat} (hX : mm_Y L prog_9_method_1_code 4 "LoanArrowsModel" 1 30 zm ym y0 B p l R s m meth c) (hBL : ∀ h i, mm_lv L.1 h i → B ≤ L.2.1 h i) (h : v_Mo_init_b12 L.1 L.2.1 zm ym g z y x1 x2 = some (g', z', y')) (hP : mm_V B L g H) (hF : ∀ q ∈ locs, B ≤ q.base) (hz : H.size = z) (hcs : cells + s.heap.size = z) (hsy : slots + y0 = y) (hl : lv_has ls 4 [(0, .ref (L.2.1 20 0)), (1, .int x1), (2, .int x2)]) (hlt0 : L.2.1 20 0 < z) : W p l e R s m args below meth c H locs cells slots (mm_QV below L s B y0 g' z' y') (F0 m 12 ls []) := by
  have hX0 := hX
  obtain ⟨hx, hb, hml, hown, hr, hlk, hRf, hRl, hJ, hK, hin0, hB0, hRc, hRs, hA0, hNS⟩ := hX0
  unfold v_Mo_init_b12 at h
  refine lv_aload_n hx hb d_Mo_init_12 rfl (lv_at hl 0 rfl) ?_
  refine lv_bipush (v := 12) hx hb d_Mo_init_13 (by decide) ?_
  obtain ⟨hn2, hn2b, h⟩ := mm_ln_some h
  obtain ⟨ha1, ha1b, ha1c, h⟩ := mm_al_some h
  refine mm_vnewa (atype := .boolean) (ty := .boolean) (h := 22) (i := 0) (t := 1) (N := 12) hX hP mm_ls22 (by omega) rfl (mm_ceZ _ _) rfl rfl (fun q => q) wt_38 hn2 hn2b (by decide) (by omega) (by omega) d_Mo_init_15 (fun H hzz hP => ?_)
  obtain ⟨g3, e4, h⟩ := mm_let_ex h
  have hP : mm_V B L g3 H := by rw [e4]; exact hP
  replace hz : H.size = z + 1 := by omega
  replace hcs := mm_pl 1 hcs
  replace hsy := mm_pl 12 hsy
  clear hzz ha1b ha1c
  refine mm_vput (h := 20) (i := 0) 3 1 hX hP hF mm_ls20 (by omega) (hBL _ _ mm_ls20) rfl rfl rfl uin_20 ty_20 tyok_20 nmok_20 (by decide) ⟨rfl, rfl, rfl⟩ (Or.inr ⟨rfl, rfl⟩) wt_615 rfl rfl rfl (Nat.le_of_ble_eq_true rfl) d_Mo_init_17 (fun H locs hzz hP hF => ?_)
  obtain ⟨g5, e6, h⟩ := mm_let_ex h
  have hP : mm_V B L g5 H := by rw [e6]; exact hP
  replace hz : H.size = (z + 1) := by omega
  clear hzz
  refine lv_aload_n hx hb d_Mo_init_20 rfl (lv_at hl 0 rfl) ?_
  refine lv_iconst (v := 3) hx hb d_Mo_init_21 (by decide) ?_
  obtain ⟨hn8, hn8b, h⟩ := mm_ln_some h
  obtain ⟨ha7, ha7b, ha7c, h⟩ := mm_al_some h
  refine mm_vnewa (atype := .boolean) (ty := .boolean) (h := 23) (i := 0) (t := 1) (N := 3) hX hP mm_ls23 (by omega) rfl (mm_ceZ _ _) rfl rfl (fun q => q) wt_38 hn8 hn8b (by decide) (by omega) (by omega) d_Mo_init_22 (fun H hzz hP => ?_)
  obtain ⟨g9, e10, h⟩ := mm_let_ex h
  have hP : mm_V B L g9 H := by rw [e10]; exact hP
  replace hz : H.size = (z + 1) + 1 := by omega
  replace hcs := mm_pl 1 hcs
  replace hsy := mm_pl 3 hsy
  clear hzz ha7b ha7c
  refine mm_vput (h := 20) (i := 0) 4 1 hX hP hF mm_ls20 (by omega) (hBL _ _ mm_ls20) rfl rfl rfl uin_20 ty_20 tyok_20 nmok_20 (by decide) ⟨rfl, rfl, rfl⟩ (Or.inr ⟨rfl, rfl⟩) wt_616 rfl rfl rfl (Nat.le_of_ble_eq_true rfl) d_Mo_init_24 (fun H locs hzz hP hF => ?_)
  obtain ⟨g11, e12, h⟩ := mm_let_ex h
  have hP : mm_V B L g11 H := by rw [e12]; exact hP
  replace hz : H.size = ((z + 1) + 1) := by omega
  clear hzz
  exact wv_Mo_init_b27 hX hBL h hP hF hz hcs hsy (lv_sub (l' := [(0, .ref (L.2.1 20 0)), (1, .int x1), (2, .int x2)]) hl [0, 1, 2] rfl) (by omega)
def v_Mo_init (n : Nat) (ad : Nat → Nat → Nat) (zm ym : Nat) (g : mm_M) (z y : Nat) (x1 : Int32) (x2 : Int32) : Option (mm_M × Nat × Nat) :=
  mm_ln 12 12 (mm_al z (ad 21 0) zm y 12 ym (mm_let (mm_row g 21 0 (fun _ => 0)) (fun g3 => mm_let (mm_st g3 20 0 2 1) (fun g5 => v_Mo_init_b12 n ad zm ym g5 (z + 1) (y + 12) x1 x2))))
set_option maxRecDepth 100000 in
set_option maxHeartbeats 4000000 in
theorem wv_Mo_init {p : Program} {l : Launch} {e : Env} {R : Room} {s : State} {m : MethodId} {args : Array Value} {below : List Frame} {meth : Method} {c : Code} {L : mm_L} {zm ym y0 B z' y' : Nat} {g' : mm_M} {g : mm_M} {z y : Nat} {x1 : Int32} {x2 : Int32} {H : Heap} {locs : List Loc} {ls : Array Slot} {cells slots : Nat} (hX : mm_Y L prog_9_method_1_code 4 "LoanArrowsModel" 1 30 zm ym y0 B p l R s m meth c) (hBL : ∀ h i, mm_lv L.1 h i → B ≤ L.2.1 h i) (h : v_Mo_init L.1 L.2.1 zm ym g z y x1 x2 = some (g', z', y')) (hP : mm_V B L g H) (hF : ∀ q ∈ locs, B ≤ q.base) (hz : H.size = z) (hcs : cells + s.heap.size = z) (hsy : slots + y0 = y) (hl : lv_has ls 4 [(0, .ref (L.2.1 20 0)), (1, .int x1), (2, .int x2)]) (hlt0 : L.2.1 20 0 < z) : W p l e R s m args below meth c H locs cells slots (mm_QV below L s B y0 g' z' y') (F0 m 0 ls []) := by
  have hX0 := hX
  obtain ⟨hx, hb, hml, hown, hr, hlk, hRf, hRl, hJ, hK, hin0, hB0, hRc, hRs, hA0, hNS⟩ := hX0
  unfold v_Mo_init at h
  refine lv_aload_n hx hb d_Mo_init_0 rfl (lv_at hl 0 rfl) ?_
  refine mm_vobj hX wt_611 wt_23 wt_24 hl.1 (by decide) (Nat.le_of_ble_eq_true rfl) d_Mo_init_1 ?_
  refine lv_aload_n hx hb d_Mo_init_4 rfl (lv_at hl 0 rfl) ?_
  refine lv_bipush (v := 12) hx hb d_Mo_init_5 (by decide) ?_
  obtain ⟨hn2, hn2b, h⟩ := mm_ln_some h
  obtain ⟨ha1, ha1b, ha1c, h⟩ := mm_al_some h
  refine mm_vnewa (atype := .int) (ty := .int) (h := 21) (i := 0) (t := 0) (N := 12) hX hP mm_ls21 (by omega) rfl (mm_ceI _ _) rfl rfl (fun q => q) wt_39 hn2 hn2b (by decide) (by omega) (by omega) d_Mo_init_7 (fun H hzz hP => ?_)
  obtain ⟨g3, e4, h⟩ := mm_let_ex h
  have hP : mm_V B L g3 H := by rw [e4]; exact hP
  replace hz : H.size = z + 1 := by omega
  replace hcs := mm_pl 1 hcs
  replace hsy := mm_pl 12 hsy
  clear hzz ha1b ha1c
  refine mm_vput (h := 20) (i := 0) 2 1 hX hP hF mm_ls20 (by omega) (hBL _ _ mm_ls20) rfl rfl rfl uin_20 ty_20 tyok_20 nmok_20 (by decide) ⟨rfl, rfl, rfl⟩ (Or.inr ⟨rfl, rfl⟩) wt_614 rfl rfl rfl (Nat.le_of_ble_eq_true rfl) d_Mo_init_9 (fun H locs hzz hP hF => ?_)
  obtain ⟨g5, e6, h⟩ := mm_let_ex h
  have hP : mm_V B L g5 H := by rw [e6]; exact hP
  replace hz : H.size = (z + 1) := by omega
  clear hzz
  exact wv_Mo_init_b12 hX hBL h hP hF hz hcs hsy (lv_sub (l' := [(0, .ref (L.2.1 20 0)), (1, .int x1), (2, .int x2)]) hl [0, 1, 2] rfl) (by omega)
set_option maxRecDepth 100000 in
set_option maxHeartbeats 4000000 in
theorem cv_Mo_init {l : Launch} {L : mm_L} {g g' : mm_M} {zm ym B z y z' y' : Nat} {x1 : Int32} {x2 : Int32} (hBL : ∀ h i, mm_lv L.1 h i → B ≤ L.2.1 h i) (hlt0 : L.2.1 20 0 < z) (h : v_Mo_init L.1 L.2.1 zm ym g z y x1 x2 = some (g', z', y')) : mm_CV l y_Mo_init prog_9_method_1_code 4 1 30 zm ym B L [.ref (L.2.1 20 0), .int x1, .int x2] g z y g' z' y' := by
  intro p e R s m below meth c hX hP hz
  refine mm_enter (Nat.le_of_ble_eq_true rfl) fun ls hl => ?_
  exact wv_Mo_init hX hBL h hP (fun q hq => by cases hq) hz (by omega) (by omega) (lv_sub (l' := [(0, .ref (L.2.1 20 0)), (1, .int x1), (2, .int x2)]) hl [0, 1, 2] rfl) hlt0

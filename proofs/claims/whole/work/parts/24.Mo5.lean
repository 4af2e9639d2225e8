def f_Mo_leads_b155 (n : Nat) (g : mm_M) (t0 : Int32) : Option (Nat × Int32 × mm_M) :=
  mm_nz t0 (some (0, t0, g))
set_option maxRecDepth 100000 in
set_option maxHeartbeats 4000000 in
theorem w_Mo_leads_b155 {p : Program} {l : Launch} {e : Env} {R : Room} {s : State} {m : MethodId} {args : Array Value} {below : List Frame} {meth : Method} {c : Code} {L : mm_L} {eo : Nat} {v : Int32} {g' : mm_M} {g : mm_M} {t0 : Int32} {H : Heap} {locs : List Loc} {ls : Array Slot} (hX : mm_X L prog_9_method_39_code 7 "LoanArrowsModel" (some .boolean) 2 43 p l R s m meth c) (h : f_Mo_leads_b155 L.1 g t0 = some (eo, v, g')) (hP : mm_P L g H) (hF : ∀ q ∈ locs, mm_F L q.base) (hl : lv_has ls 7 []) : W p l e R s m args below meth c H locs 0 0 (mm_Q below L s (mm_oi eo v) g') (F0 m 155 ls [.int t0]) := by
  have hX0 := hX
  obtain ⟨hx, hb, hml, hown, hr, hlk, hex, hRf, hRl, hRc, hRs, hJ, hK, hst, h00⟩ := hX0
  unfold f_Mo_leads_b155 at h
  obtain ⟨hn, h⟩ := mm_nz_some h
  cases h
  exact mm_zret hx hb hr hn hlk hP hF d_Mo_leads_155
def f_Mo_leads_b143 (n : Nat) (g : mm_M) (x4 : Int32) (x5 : Int32) : Option (Nat × Int32 × mm_M) :=
  (if x4 = x5 then f_Mo_leads_b155 n g 1 else f_Mo_leads_b155 n g 0)
set_option maxRecDepth 100000 in
set_option maxHeartbeats 4000000 in
theorem w_Mo_leads_b143 {p : Program} {l : Launch} {e : Env} {R : Room} {s : State} {m : MethodId} {args : Array Value} {below : List Frame} {meth : Method} {c : Code} {L : mm_L} {eo : Nat} {v : Int32} {g' : mm_M} {g : mm_M} {x4 : Int32} {x5 : Int32} {H : Heap} {locs : List Loc} {ls : Array Slot} (hX : mm_X L prog_9_method_39_code 7 "LoanArrowsModel" (some .boolean) 2 43 p l R s m meth c) (h : f_Mo_leads_b143 L.1 g x4 x5 = some (eo, v, g')) (hP : mm_P L g H) (hF : ∀ q ∈ locs, mm_F L q.base) (hl : lv_has ls 7 [(4, .int x4), (5, .int x5)]) : W p l e R s m args below meth c H locs 0 0 (mm_Q below L s (mm_oi eo v) g') (F0 m 143 ls []) := by
  have hX0 := hX
  obtain ⟨hx, hb, hml, hown, hr, hlk, hex, hRf, hRl, hRc, hRs, hJ, hK, hst, h00⟩ := hX0
  unfold f_Mo_leads_b143 at h
  refine lv_iload hx hb d_Mo_leads_143 (lv_at hl 0 rfl) ?_
  refine lv_iload hx hb d_Mo_leads_145 (lv_at hl 1 rfl) ?_
  refine lv_icmp_ne (tgt := 154) hx hb d_Mo_leads_147 rfl (fun hc => ?_) (fun hc => ?_)
  · have h := mm_neg hc h
    refine lv_iconst (v := 0) hx hb d_Mo_leads_154 (by decide) ?_
    exact w_Mo_leads_b155 hX h hP hF (lv_sub (l' := []) hl [] rfl)
  · have h := mm_pos hc h
    refine lv_iconst (v := 1) hx hb d_Mo_leads_150 (by decide) ?_
    refine lv_goto (tgt := 155) hx hb d_Mo_leads_151 rfl ?_
    exact w_Mo_leads_b155 hX h hP hF (lv_sub (l' := []) hl [] rfl)
def f_Mo_leads_l103 (n : Nat) : Nat → mm_M → Nat → Int32 → Int32 → Int32 → Int32 → Option (Nat × Int32 × mm_M)
  | 0, _, _, _, _, _, _ => none
  | k + 1, g, r0, x2, x4, x5, x6 => (if 40 ≤ x6 then f_Mo_leads_b143 n g x4 x5 else mm_bd (f_Mo_at n g x5 x2) 0 (fun z1 g2 => mm_ix z1 36 ((if (g2 25 0 z1.toNatClampNeg) < 0 then f_Mo_leads_b143 n g2 x4 x5 else mm_bd (f_Mo_at n g2 x5 x2) 0 (fun z4 g5 => mm_ix z4 36 (f_Mo_leads_l103 n k g5 r0 x2 x4 (g5 25 0 z4.toNatClampNeg) (x6 + 1)))))))
set_option maxRecDepth 100000 in
set_option maxHeartbeats 4000000 in
theorem w_Mo_leads_l103 {p : Program} {l : Launch} {e : Env} {R : Room} {s : State} {m : MethodId} {args : Array Value} {below : List Frame} {meth : Method} {c : Code} {L : mm_L} {eo : Nat} {v : Int32} {g' : mm_M} (hX : mm_X L prog_9_method_39_code 7 "LoanArrowsModel" (some .boolean) 2 43 p l R s m meth c) : ∀ (k : Nat) (g : mm_M) (r0 : Nat) (x2 : Int32) (x4 : Int32) (x5 : Int32) (x6 : Int32) (H : Heap) (locs : List Loc) (ls : Array Slot), f_Mo_leads_l103 L.1 k g r0 x2 x4 x5 x6 = some (eo, v, g') → mm_P L g H → (∀ q ∈ locs, mm_F L q.base) → lv_has ls 7 [(0, .ref (L.2.1 20 r0)), (2, .int x2), (4, .int x4), (5, .int x5), (6, .int x6)] → mm_lv L.1 20 r0 → W p l e R s m args below meth c H locs 0 0 (mm_Q below L s (mm_oi eo v) g') (F0 m 103 ls []) := by
  have hX0 := hX
  obtain ⟨hx, hb, hml, hown, hr, hlk, hex, hRf, hRl, hRc, hRs, hJ, hK, hst, h00⟩ := hX0
  intro k
  induction k with
  | zero =>
    intro g r0 x2 x4 x5 x6 H locs ls h hP hF hl hv_r0
    rw [f_Mo_leads_l103] at h
    cases h
  | succ k ih =>
    intro g r0 x2 x4 x5 x6 H locs ls h hP hF hl hv_r0
    rw [f_Mo_leads_l103] at h
    refine lv_iload hx hb d_Mo_leads_103 (lv_at hl 4 rfl) ?_
    refine lv_bipush (v := 40) hx hb d_Mo_leads_105 (by decide) ?_
    refine lv_icmp_ge (tgt := 143) hx hb d_Mo_leads_107 rfl (fun hc => ?_) (fun hc => ?_)
    · have h := mm_pos hc h
      exact w_Mo_leads_b143 hX h hP hF (lv_sub (l' := [(4, .int x4), (5, .int x5)]) hl [2, 3] rfl)
    · have h := mm_neg hc h
      refine lv_aload_n hx hb d_Mo_leads_110 rfl (lv_at hl 0 rfl) ?_
      refine mm_get (h := 20) (i := r0) 6 hX hP hv_r0 rfl rfl uin_20 (by decide) ⟨rfl, rfl, rfl⟩ wt_618 rfl d_Mo_leads_111 ?_
      refine lv_iload hx hb d_Mo_leads_114 (lv_at hl 3 rfl) ?_
      refine lv_iload_n hx hb d_Mo_leads_116 rfl (lv_at hl 1 rfl) ?_
      rcases mm_bd_some h with ⟨z1, g2, hf3, h⟩ | ⟨xe, z1, g2, hf3, h⟩
      · refine mm_goR (v := (some (.int z1))) (mm_goS (As := [.int x5, .int x2]) (rest := [.ref (L.2.1 25 0)]) hX (c_Mo_at hf3) yw_Mo_at wt_717 wt_718 wt_8 hP hF rfl hl.1 (Nat.le_of_ble_eq_true rfl) (by decide) (by decide) hRc hRs d_Mo_leads_117) hF (fun H locs hP hF _ => ?_)
        obtain ⟨hin, h⟩ := mm_ix_some h
        refine mm_iald (h := 25) (i := 0) hX hP mm_ls25 (fun _ => rfl) rfl hin d_Mo_leads_120 ?_
        refine lv_if_lt (tgt := 143) hx hb d_Mo_leads_121 rfl (fun hc => ?_) (fun hc => ?_)
        · have h := mm_pos hc h
          exact w_Mo_leads_b143 hX h hP hF (lv_sub (l' := [(4, .int x4), (5, .int x5)]) hl [2, 3] rfl)
        · have h := mm_neg hc h
          refine lv_aload_n hx hb d_Mo_leads_124 rfl (lv_at hl 0 rfl) ?_
          refine mm_get (h := 20) (i := r0) 6 hX hP hv_r0 rfl rfl uin_20 (by decide) ⟨rfl, rfl, rfl⟩ wt_618 rfl d_Mo_leads_125 ?_
          refine lv_iload hx hb d_Mo_leads_128 (lv_at hl 3 rfl) ?_
          refine lv_iload_n hx hb d_Mo_leads_130 rfl (lv_at hl 1 rfl) ?_
          rcases mm_bd_some h with ⟨z4, g5, hf6, h⟩ | ⟨xe, z4, g5, hf6, h⟩
          · refine mm_goR (v := (some (.int z4))) (mm_goS (As := [.int x5, .int x2]) (rest := [.ref (L.2.1 25 0)]) hX (c_Mo_at hf6) yw_Mo_at wt_717 wt_718 wt_8 hP hF rfl hl.1 (Nat.le_of_ble_eq_true rfl) (by decide) (by decide) hRc hRs d_Mo_leads_131) hF (fun H locs hP hF _ => ?_)
            obtain ⟨hin, h⟩ := mm_ix_some h
            refine mm_iald (h := 25) (i := 0) hX hP mm_ls25 (fun _ => rfl) rfl hin d_Mo_leads_134 ?_
            refine lv_istore hx hb d_Mo_leads_135 hl (Nat.lt_of_lt_of_le (Nat.lt_succ_self _) (Nat.le_of_ble_eq_true rfl)) rfl (fun ls hl => ?_)
            have hl : lv_has ls 7 [(5, .int (g5 25 0 z4.toNatClampNeg)), (0, .ref (L.2.1 20 r0)), (2, .int x2), (4, .int x4), (6, .int x6)] := hl
            refine lv_iinc (k := 4) (v := (x6 + 1)) hx hb d_Mo_leads_137 hl rfl (congrArg (fun z => x6 + z) mm_i1) (Nat.lt_of_lt_of_le (Nat.lt_succ_self _) (Nat.le_of_ble_eq_true rfl)) rfl (fun ls hl => ?_)
            have hl : lv_has ls 7 [(6, .int (x6 + 1)), (5, .int (g5 25 0 z4.toNatClampNeg)), (0, .ref (L.2.1 20 r0)), (2, .int x2), (4, .int x4)] := hl
            refine lv_goto (tgt := 103) hx hb d_Mo_leads_140 rfl ?_
            exact ih _ _ _ _ _ _ _ _ _ h hP hF (lv_sub (l' := [(0, .ref (L.2.1 20 r0)), (2, .int x2), (4, .int x4), (5, .int (g5 25 0 z4.toNatClampNeg)), (6, .int (x6 + 1))]) hl [2, 3, 4, 1, 0] rfl) hv_r0
          · cases h
            exact mm_goT (x := xe + 1) (mm_goS (As := [.int x5, .int x2]) (rest := [.ref (L.2.1 25 0)]) hX (c_Mo_at hf6) yw_Mo_at wt_717 wt_718 wt_8 hP hF rfl hl.1 (Nat.le_of_ble_eq_true rfl) (by decide) (by decide) hRc hRs d_Mo_leads_131) hF hex hlk
      · cases h
        exact mm_goT (x := xe + 1) (mm_goS (As := [.int x5, .int x2]) (rest := [.ref (L.2.1 25 0)]) hX (c_Mo_at hf3) yw_Mo_at wt_717 wt_718 wt_8 hP hF rfl hl.1 (Nat.le_of_ble_eq_true rfl) (by decide) (by decide) hRc hRs d_Mo_leads_117) hF hex hlk
def f_Mo_leads_b92 (n : Nat) (g : mm_M) (r0 : Nat) (x2 : Int32) (x4 : Int32) : Option (Nat × Int32 × mm_M) :=
  mm_ix x2 3 (f_Mo_leads_l103 n 4096 g r0 x2 x4 (g 30 0 x2.toNatClampNeg) 0)
set_option maxRecDepth 100000 in
set_option maxHeartbeats 4000000 in
theorem w_Mo_leads_b92 {p : Program} {l : Launch} {e : Env} {R : Room} {s : State} {m : MethodId} {args : Array Value} {below : List Frame} {meth : Method} {c : Code} {L : mm_L} {eo : Nat} {v : Int32} {g' : mm_M} {g : mm_M} {r0 : Nat} {x2 : Int32} {x4 : Int32} {H : Heap} {locs : List Loc} {ls : Array Slot} (hX : mm_X L prog_9_method_39_code 7 "LoanArrowsModel" (some .boolean) 2 43 p l R s m meth c) (h : f_Mo_leads_b92 L.1 g r0 x2 x4 = some (eo, v, g')) (hP : mm_P L g H) (hF : ∀ q ∈ locs, mm_F L q.base) (hl : lv_has ls 7 [(0, .ref (L.2.1 20 r0)), (2, .int x2), (4, .int x4)]) (hv_r0 : mm_lv L.1 20 r0) : W p l e R s m args below meth c H locs 0 0 (mm_Q below L s (mm_oi eo v) g') (F0 m 92 ls []) := by
  have hX0 := hX
  obtain ⟨hx, hb, hml, hown, hr, hlk, hex, hRf, hRl, hRc, hRs, hJ, hK, hst, h00⟩ := hX0
  unfold f_Mo_leads_b92 at h
  refine lv_aload_n hx hb d_Mo_leads_92 rfl (lv_at hl 0 rfl) ?_
  refine mm_get (h := 20) (i := r0) 11 hX hP hv_r0 rfl rfl uin_20 (by decide) ⟨rfl, rfl, rfl⟩ wt_623 rfl d_Mo_leads_93 ?_
  refine lv_iload_n hx hb d_Mo_leads_96 rfl (lv_at hl 1 rfl) ?_
  obtain ⟨hin, h⟩ := mm_ix_some h
  refine mm_iald (h := 30) (i := 0) hX hP mm_ls30 (fun _ => rfl) rfl hin d_Mo_leads_97 ?_
  refine lv_istore hx hb d_Mo_leads_98 hl (Nat.lt_of_lt_of_le (Nat.lt_succ_self _) (Nat.le_of_ble_eq_true rfl)) rfl (fun ls hl => ?_)
  have hl : lv_has ls 7 [(5, .int (g 30 0 x2.toNatClampNeg)), (0, .ref (L.2.1 20 r0)), (2, .int x2), (4, .int x4)] := hl
  refine lv_iconst (v := 0) hx hb d_Mo_leads_100 (by decide) ?_
  refine lv_istore hx hb d_Mo_leads_101 hl (Nat.lt_of_lt_of_le (Nat.lt_succ_self _) (Nat.le_of_ble_eq_true rfl)) rfl (fun ls hl => ?_)
  have hl : lv_has ls 7 [(6, .int 0), (5, .int (g 30 0 x2.toNatClampNeg)), (0, .ref (L.2.1 20 r0)), (2, .int x2), (4, .int x4)] := hl
  exact w_Mo_leads_l103 hX _ _ _ _ _ _ _ _ _ _ h hP hF (lv_sub (l' := [(0, .ref (L.2.1 20 r0)), (2, .int x2), (4, .int x4), (5, .int (g 30 0 x2.toNatClampNeg)), (6, .int 0)]) hl [2, 3, 4, 1, 0] rfl) hv_r0
def f_Mo_leads_l50 (n : Nat) : Nat → mm_M → Nat → Int32 → Int32 → Int32 → Option (Nat × Int32 × mm_M)
  | 0, _, _, _, _, _ => none
  | k + 1, g, r0, x2, x4, x5 => (if 40 ≤ x5 then f_Mo_leads_b92 n g r0 x2 x4 else mm_bd (f_Mo_at n g x4 x2) 0 (fun z1 g2 => mm_ix z1 36 ((if (g2 24 0 z1.toNatClampNeg) = x4 then f_Mo_leads_b92 n g2 r0 x2 x4 else mm_bd (f_Mo_at n g2 x4 x2) 0 (fun z4 g5 => mm_ix z4 36 (f_Mo_leads_l50 n k g5 r0 x2 (g5 24 0 z4.toNatClampNeg) (x5 + 1)))))))
set_option maxRecDepth 100000 in
set_option maxHeartbeats 4000000 in
theorem w_Mo_leads_l50 {p : Program} {l : Launch} {e : Env} {R : Room} {s : State} {m : MethodId} {args : Array Value} {below : List Frame} {meth : Method} {c : Code} {L : mm_L} {eo : Nat} {v : Int32} {g' : mm_M} (hX : mm_X L prog_9_method_39_code 7 "LoanArrowsModel" (some .boolean) 2 43 p l R s m meth c) : ∀ (k : Nat) (g : mm_M) (r0 : Nat) (x2 : Int32) (x4 : Int32) (x5 : Int32) (H : Heap) (locs : List Loc) (ls : Array Slot), f_Mo_leads_l50 L.1 k g r0 x2 x4 x5 = some (eo, v, g') → mm_P L g H → (∀ q ∈ locs, mm_F L q.base) → lv_has ls 7 [(0, .ref (L.2.1 20 r0)), (2, .int x2), (4, .int x4), (5, .int x5)] → mm_lv L.1 20 r0 → W p l e R s m args below meth c H locs 0 0 (mm_Q below L s (mm_oi eo v) g') (F0 m 50 ls []) := by
  have hX0 := hX
  obtain ⟨hx, hb, hml, hown, hr, hlk, hex, hRf, hRl, hRc, hRs, hJ, hK, hst, h00⟩ := hX0
  intro k
  induction k with
  | zero =>
    intro g r0 x2 x4 x5 H locs ls h hP hF hl hv_r0
    rw [f_Mo_leads_l50] at h
    cases h
  | succ k ih =>
    intro g r0 x2 x4 x5 H locs ls h hP hF hl hv_r0
    rw [f_Mo_leads_l50] at h
    refine lv_iload hx hb d_Mo_leads_50 (lv_at hl 3 rfl) ?_
    refine lv_bipush (v := 40) hx hb d_Mo_leads_52 (by decide) ?_
    refine lv_icmp_ge (tgt := 92) hx hb d_Mo_leads_54 rfl (fun hc => ?_) (fun hc => ?_)
    · have h := mm_pos hc h
      exact w_Mo_leads_b92 hX h hP hF (lv_sub (l' := [(0, .ref (L.2.1 20 r0)), (2, .int x2), (4, .int x4)]) hl [0, 1, 2] rfl) hv_r0
    · have h := mm_neg hc h
      refine lv_aload_n hx hb d_Mo_leads_57 rfl (lv_at hl 0 rfl) ?_
      refine mm_get (h := 20) (i := r0) 5 hX hP hv_r0 rfl rfl uin_20 (by decide) ⟨rfl, rfl, rfl⟩ wt_617 rfl d_Mo_leads_58 ?_
      refine lv_iload hx hb d_Mo_leads_61 (lv_at hl 2 rfl) ?_
      refine lv_iload_n hx hb d_Mo_leads_63 rfl (lv_at hl 1 rfl) ?_
      rcases mm_bd_some h with ⟨z1, g2, hf3, h⟩ | ⟨xe, z1, g2, hf3, h⟩
      · refine mm_goR (v := (some (.int z1))) (mm_goS (As := [.int x4, .int x2]) (rest := [.ref (L.2.1 24 0)]) hX (c_Mo_at hf3) yw_Mo_at wt_717 wt_718 wt_8 hP hF rfl hl.1 (Nat.le_of_ble_eq_true rfl) (by decide) (by decide) hRc hRs d_Mo_leads_64) hF (fun H locs hP hF _ => ?_)
        obtain ⟨hin, h⟩ := mm_ix_some h
        refine mm_iald (h := 24) (i := 0) hX hP mm_ls24 (fun _ => rfl) rfl hin d_Mo_leads_67 ?_
        refine lv_iload hx hb d_Mo_leads_68 (lv_at hl 2 rfl) ?_
        refine lv_icmp_eq (tgt := 92) hx hb d_Mo_leads_70 rfl (fun hc => ?_) (fun hc => ?_)
        · have h := mm_pos hc h
          exact w_Mo_leads_b92 hX h hP hF (lv_sub (l' := [(0, .ref (L.2.1 20 r0)), (2, .int x2), (4, .int x4)]) hl [0, 1, 2] rfl) hv_r0
        · have h := mm_neg hc h
          refine lv_aload_n hx hb d_Mo_leads_73 rfl (lv_at hl 0 rfl) ?_
          refine mm_get (h := 20) (i := r0) 5 hX hP hv_r0 rfl rfl uin_20 (by decide) ⟨rfl, rfl, rfl⟩ wt_617 rfl d_Mo_leads_74 ?_
          refine lv_iload hx hb d_Mo_leads_77 (lv_at hl 2 rfl) ?_
          refine lv_iload_n hx hb d_Mo_leads_79 rfl (lv_at hl 1 rfl) ?_
          rcases mm_bd_some h with ⟨z4, g5, hf6, h⟩ | ⟨xe, z4, g5, hf6, h⟩
          · refine mm_goR (v := (some (.int z4))) (mm_goS (As := [.int x4, .int x2]) (rest := [.ref (L.2.1 24 0)]) hX (c_Mo_at hf6) yw_Mo_at wt_717 wt_718 wt_8 hP hF rfl hl.1 (Nat.le_of_ble_eq_true rfl) (by decide) (by decide) hRc hRs d_Mo_leads_80) hF (fun H locs hP hF _ => ?_)
            obtain ⟨hin, h⟩ := mm_ix_some h
            refine mm_iald (h := 24) (i := 0) hX hP mm_ls24 (fun _ => rfl) rfl hin d_Mo_leads_83 ?_
            refine lv_istore hx hb d_Mo_leads_84 hl (Nat.lt_of_lt_of_le (Nat.lt_succ_self _) (Nat.le_of_ble_eq_true rfl)) rfl (fun ls hl => ?_)
            have hl : lv_has ls 7 [(4, .int (g5 24 0 z4.toNatClampNeg)), (0, .ref (L.2.1 20 r0)), (2, .int x2), (5, .int x5)] := hl
            refine lv_iinc (k := 3) (v := (x5 + 1)) hx hb d_Mo_leads_86 hl rfl (congrArg (fun z => x5 + z) mm_i1) (Nat.lt_of_lt_of_le (Nat.lt_succ_self _) (Nat.le_of_ble_eq_true rfl)) rfl (fun ls hl => ?_)
            have hl : lv_has ls 7 [(5, .int (x5 + 1)), (4, .int (g5 24 0 z4.toNatClampNeg)), (0, .ref (L.2.1 20 r0)), (2, .int x2)] := hl
            refine lv_goto (tgt := 50) hx hb d_Mo_leads_89 rfl ?_
            exact ih _ _ _ _ _ _ _ _ h hP hF (lv_sub (l' := [(0, .ref (L.2.1 20 r0)), (2, .int x2), (4, .int (g5 24 0 z4.toNatClampNeg)), (5, .int (x5 + 1))]) hl [2, 3, 1, 0] rfl) hv_r0
          · cases h
            exact mm_goT (x := xe + 1) (mm_goS (As := [.int x4, .int x2]) (rest := [.ref (L.2.1 24 0)]) hX (c_Mo_at hf6) yw_Mo_at wt_717 wt_718 wt_8 hP hF rfl hl.1 (Nat.le_of_ble_eq_true rfl) (by decide) (by decide) hRc hRs d_Mo_leads_80) hF hex hlk
      · cases h
        exact mm_goT (x := xe + 1) (mm_goS (As := [.int x4, .int x2]) (rest := [.ref (L.2.1 24 0)]) hX (c_Mo_at hf3) yw_Mo_at wt_717 wt_718 wt_8 hP hF rfl hl.1 (Nat.le_of_ble_eq_true rfl) (by decide) (by decide) hRc hRs d_Mo_leads_64) hF hex hlk
def f_Mo_leads_b35 (n : Nat) (g : mm_M) (r0 : Nat) (x1 : Int32) (x2 : Int32) (u0 : Nat) (t1 : Int32) (t2 : Int32) : Option (Nat × Int32 × mm_M) :=
  mm_bd (f_Mo_refused n g u0 t1 t2 0) 0 (fun z1 g2 => (if z1 = 0 then f_Mo_leads_l50 n 4096 g2 r0 x2 x1 0 else mm_nz 0 (some (0, 0, g2))))
set_option maxRecDepth 100000 in
set_option maxHeartbeats 4000000 in
theorem w_Mo_leads_b35 {p : Program} {l : Launch} {e : Env} {R : Room} {s : State} {m : MethodId} {args : Array Value} {below : List Frame} {meth : Method} {c : Code} {L : mm_L} {eo : Nat} {v : Int32} {g' : mm_M} {g : mm_M} {r0 : Nat} {x1 : Int32} {x2 : Int32} {u0 : Nat} {t1 : Int32} {t2 : Int32} {H : Heap} {locs : List Loc} {ls : Array Slot} (hX : mm_X L prog_9_method_39_code 7 "LoanArrowsModel" (some .boolean) 2 43 p l R s m meth c) (h : f_Mo_leads_b35 L.1 g r0 x1 x2 u0 t1 t2 = some (eo, v, g')) (hP : mm_P L g H) (hF : ∀ q ∈ locs, mm_F L q.base) (hl : lv_has ls 7 [(0, .ref (L.2.1 20 r0)), (1, .int x1), (2, .int x2)]) (hv_r0 : mm_lv L.1 20 r0) (hv_u0 : mm_lv L.1 20 u0) : W p l e R s m args below meth c H locs 0 0 (mm_Q below L s (mm_oi eo v) g') (F0 m 35 ls [.int t2, .int t1, .ref (L.2.1 20 u0)]) := by
  have hX0 := hX
  obtain ⟨hx, hb, hml, hown, hr, hlk, hex, hRf, hRl, hRc, hRs, hJ, hK, hst, h00⟩ := hX0
  unfold f_Mo_leads_b35 at h
  refine lv_iconst (v := 0) hx hb d_Mo_leads_35 (by decide) ?_
  rcases mm_bd_some h with ⟨z1, g2, hf3, h⟩ | ⟨xe, z1, g2, hf3, h⟩
  · refine mm_goR (v := (some (.int z1))) (mm_goV (As := [.int t1, .int t2, .int 0]) (rest := []) hX (c_Mo_refused hv_u0 hf3) yw_Mo_refused wt_713 wt_715 ws_0_13 hP hF (mm_recv (h := 20) (i := u0) hX hP hv_u0 rfl rfl) rfl hl.1 (Nat.le_of_ble_eq_true rfl) (by decide) (by decide) hRc hRs d_Mo_leads_36) hF (fun H locs hP hF _ => ?_)
    refine lv_if_eq (tgt := 44) hx hb d_Mo_leads_39 rfl (fun hc => ?_) (fun hc => ?_)
    · have h := mm_pos hc h
      refine lv_iload_n hx hb d_Mo_leads_44 rfl (lv_at hl 1 rfl) ?_
      refine lv_istore hx hb d_Mo_leads_45 hl (Nat.lt_of_lt_of_le (Nat.lt_succ_self _) (Nat.le_of_ble_eq_true rfl)) rfl (fun ls hl => ?_)
      have hl : lv_has ls 7 [(4, .int x1), (0, .ref (L.2.1 20 r0)), (1, .int x1), (2, .int x2)] := hl
      refine lv_iconst (v := 0) hx hb d_Mo_leads_47 (by decide) ?_
      refine lv_istore hx hb d_Mo_leads_48 hl (Nat.lt_of_lt_of_le (Nat.lt_succ_self _) (Nat.le_of_ble_eq_true rfl)) rfl (fun ls hl => ?_)
      have hl : lv_has ls 7 [(5, .int 0), (4, .int x1), (0, .ref (L.2.1 20 r0)), (1, .int x1), (2, .int x2)] := hl
      exact w_Mo_leads_l50 hX _ _ _ _ _ _ _ _ _ h hP hF (lv_sub (l' := [(0, .ref (L.2.1 20 r0)), (2, .int x2), (4, .int x1), (5, .int 0)]) hl [2, 4, 1, 0] rfl) hv_r0
    · have h := mm_neg hc h
      refine lv_iconst (v := 0) hx hb d_Mo_leads_42 (by decide) ?_
      obtain ⟨hn, h⟩ := mm_nz_some h
      cases h
      exact mm_zret hx hb hr hn hlk hP hF d_Mo_leads_43
  · cases h
    exact mm_goT (x := xe + 1) (mm_goV (As := [.int t1, .int t2, .int 0]) (rest := []) hX (c_Mo_refused hv_u0 hf3) yw_Mo_refused wt_713 wt_715 ws_0_13 hP hF (mm_recv (h := 20) (i := u0) hX hP hv_u0 rfl rfl) rfl hl.1 (Nat.le_of_ble_eq_true rfl) (by decide) (by decide) hRc hRs d_Mo_leads_36) hF hex hlk
def f_Mo_leads_b34 (n : Nat) (g : mm_M) (r0 : Nat) (x1 : Int32) (x2 : Int32) (u0 : Nat) (t1 : Int32) : Option (Nat × Int32 × mm_M) :=
  f_Mo_leads_b35 n g r0 x1 x2 u0 t1 0
set_option maxRecDepth 100000 in
set_option maxHeartbeats 4000000 in
theorem w_Mo_leads_b34 {p : Program} {l : Launch} {e : Env} {R : Room} {s : State} {m : MethodId} {args : Array Value} {below : List Frame} {meth : Method} {c : Code} {L : mm_L} {eo : Nat} {v : Int32} {g' : mm_M} {g : mm_M} {r0 : Nat} {x1 : Int32} {x2 : Int32} {u0 : Nat} {t1 : Int32} {H : Heap} {locs : List Loc} {ls : Array Slot} (hX : mm_X L prog_9_method_39_code 7 "LoanArrowsModel" (some .boolean) 2 43 p l R s m meth c) (h : f_Mo_leads_b34 L.1 g r0 x1 x2 u0 t1 = some (eo, v, g')) (hP : mm_P L g H) (hF : ∀ q ∈ locs, mm_F L q.base) (hl : lv_has ls 7 [(0, .ref (L.2.1 20 r0)), (1, .int x1), (2, .int x2)]) (hv_r0 : mm_lv L.1 20 r0) (hv_u0 : mm_lv L.1 20 u0) : W p l e R s m args below meth c H locs 0 0 (mm_Q below L s (mm_oi eo v) g') (F0 m 34 ls [.int t1, .ref (L.2.1 20 u0)]) := by
  have hX0 := hX
  obtain ⟨hx, hb, hml, hown, hr, hlk, hex, hRf, hRl, hRc, hRs, hJ, hK, hst, h00⟩ := hX0
  unfold f_Mo_leads_b34 at h
  refine lv_iconst (v := 0) hx hb d_Mo_leads_34 (by decide) ?_
  exact w_Mo_leads_b35 hX h hP hF (lv_sub (l' := [(0, .ref (L.2.1 20 r0)), (1, .int x1), (2, .int x2)]) hl [0, 1, 2] rfl) hv_r0 hv_u0
def f_Mo_leads_b14 (n : Nat) (g : mm_M) (r0 : Nat) (x1 : Int32) (x2 : Int32) (t0 : Int32) : Option (Nat × Int32 × mm_M) :=
  (if t0 = 0 then mm_ix x2 3 ((if (g 23 0 x2.toNatClampNeg) = 0 then f_Mo_leads_b35 n g r0 x1 x2 r0 t0 1 else f_Mo_leads_b34 n g r0 x1 x2 r0 t0)) else f_Mo_leads_b34 n g r0 x1 x2 r0 t0)
set_option maxRecDepth 100000 in
set_option maxHeartbeats 4000000 in
theorem w_Mo_leads_b14 {p : Program} {l : Launch} {e : Env} {R : Room} {s : State} {m : MethodId} {args : Array Value} {below : List Frame} {meth : Method} {c : Code} {L : mm_L} {eo : Nat} {v : Int32} {g' : mm_M} {g : mm_M} {r0 : Nat} {x1 : Int32} {x2 : Int32} {t0 : Int32} {H : Heap} {locs : List Loc} {ls : Array Slot} (hX : mm_X L prog_9_method_39_code 7 "LoanArrowsModel" (some .boolean) 2 43 p l R s m meth c) (h : f_Mo_leads_b14 L.1 g r0 x1 x2 t0 = some (eo, v, g')) (hP : mm_P L g H) (hF : ∀ q ∈ locs, mm_F L q.base) (hl : lv_has ls 7 [(0, .ref (L.2.1 20 r0)), (1, .int x1), (2, .int x2)]) (hv_r0 : mm_lv L.1 20 r0) : W p l e R s m args below meth c H locs 0 0 (mm_Q below L s (mm_oi eo v) g') (F0 m 14 ls [.int t0]) := by
  have hX0 := hX
  obtain ⟨hx, hb, hml, hown, hr, hlk, hex, hRf, hRl, hRc, hRs, hJ, hK, hst, h00⟩ := hX0
  unfold f_Mo_leads_b14 at h
  refine lv_istore_n hx hb d_Mo_leads_14 rfl hl (Nat.lt_of_lt_of_le (Nat.lt_succ_self _) (Nat.le_of_ble_eq_true rfl)) rfl (fun ls hl => ?_)
  have hl : lv_has ls 7 [(3, .int t0), (0, .ref (L.2.1 20 r0)), (1, .int x1), (2, .int x2)] := hl
  refine lv_aload_n hx hb d_Mo_leads_15 rfl (lv_at hl 1 rfl) ?_
  refine lv_iload_n hx hb d_Mo_leads_16 rfl (lv_at hl 0 rfl) ?_
  refine lv_iload_n hx hb d_Mo_leads_17 rfl (lv_at hl 0 rfl) ?_
  refine lv_if_ne (tgt := 34) hx hb d_Mo_leads_18 rfl (fun hc => ?_) (fun hc => ?_)
  · have h := mm_neg hc h
    exact w_Mo_leads_b34 hX h hP hF (lv_sub (l' := [(0, .ref (L.2.1 20 r0)), (1, .int x1), (2, .int x2)]) hl [1, 2, 3] rfl) hv_r0 hv_r0
  · have h := mm_pos hc h
    refine lv_aload_n hx hb d_Mo_leads_21 rfl (lv_at hl 1 rfl) ?_
    refine mm_get (h := 20) (i := r0) 4 hX hP hv_r0 rfl rfl uin_20 (by decide) ⟨rfl, rfl, rfl⟩ wt_616 rfl d_Mo_leads_22 ?_
    refine lv_iload_n hx hb d_Mo_leads_25 rfl (lv_at hl 3 rfl) ?_
    obtain ⟨hin, h⟩ := mm_ix_some h
    refine mm_zald (h := 23) (i := 0) hX hP mm_ls23 (fun _ => rfl) rfl hin d_Mo_leads_26 ?_
    refine lv_if_ne (tgt := 34) hx hb d_Mo_leads_27 rfl (fun hc => ?_) (fun hc => ?_)
    · have h := mm_neg hc h
      exact w_Mo_leads_b34 hX h hP hF (lv_sub (l' := [(0, .ref (L.2.1 20 r0)), (1, .int x1), (2, .int x2)]) hl [1, 2, 3] rfl) hv_r0 hv_r0
    · have h := mm_pos hc h
      refine lv_iconst (v := 1) hx hb d_Mo_leads_30 (by decide) ?_
      refine lv_goto (tgt := 35) hx hb d_Mo_leads_31 rfl ?_
      exact w_Mo_leads_b35 hX h hP hF (lv_sub (l' := [(0, .ref (L.2.1 20 r0)), (1, .int x1), (2, .int x2)]) hl [1, 2, 3] rfl) hv_r0 hv_r0
def f_Mo_leads (n : Nat) (g : mm_M) (r0 : Nat) (x1 : Int32) (x2 : Int32) : Option (Nat × Int32 × mm_M) :=
  mm_bd (f_Mo_isPair n g r0 x1 x2) 0 (fun z1 g2 => (if z1 = 0 then f_Mo_leads_b14 n g2 r0 x1 x2 1 else f_Mo_leads_b14 n g2 r0 x1 x2 0))
set_option maxRecDepth 100000 in
set_option maxHeartbeats 4000000 in
theorem w_Mo_leads {p : Program} {l : Launch} {e : Env} {R : Room} {s : State} {m : MethodId} {args : Array Value} {below : List Frame} {meth : Method} {c : Code} {L : mm_L} {eo : Nat} {v : Int32} {g' : mm_M} {g : mm_M} {r0 : Nat} {x1 : Int32} {x2 : Int32} {H : Heap} {locs : List Loc} {ls : Array Slot} (hX : mm_X L prog_9_method_39_code 7 "LoanArrowsModel" (some .boolean) 2 43 p l R s m meth c) (h : f_Mo_leads L.1 g r0 x1 x2 = some (eo, v, g')) (hP : mm_P L g H) (hF : ∀ q ∈ locs, mm_F L q.base) (hl : lv_has ls 7 [(0, .ref (L.2.1 20 r0)), (1, .int x1), (2, .int x2)]) (hv_r0 : mm_lv L.1 20 r0) : W p l e R s m args below meth c H locs 0 0 (mm_Q below L s (mm_oi eo v) g') (F0 m 0 ls []) := by
  have hX0 := hX
  obtain ⟨hx, hb, hml, hown, hr, hlk, hex, hRf, hRl, hRc, hRs, hJ, hK, hst, h00⟩ := hX0
  unfold f_Mo_leads at h
  refine lv_aload_n hx hb d_Mo_leads_0 rfl (lv_at hl 0 rfl) ?_
  refine lv_iload_n hx hb d_Mo_leads_1 rfl (lv_at hl 1 rfl) ?_
  refine lv_iload_n hx hb d_Mo_leads_2 rfl (lv_at hl 2 rfl) ?_
  rcases mm_bd_some h with ⟨z1, g2, hf3, h⟩ | ⟨xe, z1, g2, hf3, h⟩
  · refine mm_goR (v := (some (.int z1))) (mm_goV (As := [.int x1, .int x2]) (rest := []) hX (c_Mo_isPair hv_r0 hf3) yw_Mo_isPair wt_702 wt_704 ws_0_11 hP hF (mm_recv (h := 20) (i := r0) hX hP hv_r0 rfl rfl) rfl hl.1 (Nat.le_of_ble_eq_true rfl) (by decide) (by decide) hRc hRs d_Mo_leads_3) hF (fun H locs hP hF _ => ?_)
    refine lv_if_ne (tgt := 13) hx hb d_Mo_leads_6 rfl (fun hc => ?_) (fun hc => ?_)
    · have h := mm_neg hc h
      refine lv_iconst (v := 0) hx hb d_Mo_leads_13 (by decide) ?_
      exact w_Mo_leads_b14 hX h hP hF (lv_sub (l' := [(0, .ref (L.2.1 20 r0)), (1, .int x1), (2, .int x2)]) hl [0, 1, 2] rfl) hv_r0
    · have h := mm_pos hc h
      refine lv_iconst (v := 1) hx hb d_Mo_leads_9 (by decide) ?_
      refine lv_goto (tgt := 14) hx hb d_Mo_leads_10 rfl ?_
      exact w_Mo_leads_b14 hX h hP hF (lv_sub (l' := [(0, .ref (L.2.1 20 r0)), (1, .int x1), (2, .int x2)]) hl [0, 1, 2] rfl) hv_r0
  · cases h
    exact mm_goT (x := xe + 1) (mm_goV (As := [.int x1, .int x2]) (rest := []) hX (c_Mo_isPair hv_r0 hf3) yw_Mo_isPair wt_702 wt_704 ws_0_11 hP hF (mm_recv (h := 20) (i := r0) hX hP hv_r0 rfl rfl) rfl hl.1 (Nat.le_of_ble_eq_true rfl) (by decide) (by decide) hRc hRs d_Mo_leads_3) hF hex hlk
set_option maxRecDepth 100000 in
set_option maxHeartbeats 4000000 in
theorem c_Mo_leads {l : Launch} {L : mm_L} {g g' : mm_M} {eo : Nat} {v : Int32} {r0 : Nat} {x1 : Int32} {x2 : Int32} (hv_r0 : mm_lv L.1 20 r0) (h : f_Mo_leads L.1 g r0 x1 x2 = some (eo, v, g')) : mm_C l y_Mo_leads prog_9_method_39_code 7 (some .boolean) 2 43 L [.ref (L.2.1 20 r0), .int x1, .int x2] g (mm_oi eo v) g' := by
  intro p e R s m below meth c hX hP
  refine mm_enter (Nat.le_of_ble_eq_true rfl) fun ls hl => ?_
  exact w_Mo_leads hX h hP (fun q hq => by cases hq) (lv_sub (l' := [(0, .ref (L.2.1 20 r0)), (1, .int x1), (2, .int x2)]) hl [0, 1, 2] rfl) hv_r0
def f_Mo_quiet_l40 (n : Nat) : Nat → mm_M → Nat → Int32 → Int32 → Option (Nat × Int32 × mm_M)
  | 0, _, _, _, _ => none
  | k + 1, g, r0, x1, x2 => (if 24 ≤ x2 then mm_nz x1 (some (0, x1, g)) else (if x1 = 0 then f_Mo_quiet_l40 n k g r0 0 (x2 + 1) else mm_ix x2 24 (mm_ix x2 24 ((if (g 35 0 x2.toNatClampNeg) = (g 34 0 x2.toNatClampNeg) then f_Mo_quiet_l40 n k g r0 1 (x2 + 1) else f_Mo_quiet_l40 n k g r0 0 (x2 + 1))))))
set_option maxRecDepth 100000 in
set_option maxHeartbeats 4000000 in
theorem w_Mo_quiet_l40 {p : Program} {l : Launch} {e : Env} {R : Room} {s : State} {m : MethodId} {args : Array Value} {below : List Frame} {meth : Method} {c : Code} {L : mm_L} {eo : Nat} {v : Int32} {g' : mm_M} (hX : mm_X L prog_9_method_40_code 3 "LoanArrowsModel" (some .boolean) 0 0 p l R s m meth c) : ∀ (k : Nat) (g : mm_M) (r0 : Nat) (x1 : Int32) (x2 : Int32) (H : Heap) (locs : List Loc) (ls : Array Slot), f_Mo_quiet_l40 L.1 k g r0 x1 x2 = some (eo, v, g') → mm_P L g H → (∀ q ∈ locs, mm_F L q.base) → lv_has ls 3 [(0, .ref (L.2.1 20 r0)), (1, .int x1), (2, .int x2)] → mm_lv L.1 20 r0 → W p l e R s m args below meth c H locs 0 0 (mm_Q below L s (mm_oi eo v) g') (F0 m 40 ls []) := by
  have hX0 := hX
  obtain ⟨hx, hb, hml, hown, hr, hlk, hex, hRf, hRl, hRc, hRs, hJ, hK, hst, h00⟩ := hX0
  intro k
  induction k with
  | zero =>
    intro g r0 x1 x2 H locs ls h hP hF hl hv_r0
    rw [f_Mo_quiet_l40] at h
    cases h
  | succ k ih =>
    intro g r0 x1 x2 H locs ls h hP hF hl hv_r0
    rw [f_Mo_quiet_l40] at h
    refine lv_iload_n hx hb d_Mo_quiet_40 rfl (lv_at hl 2 rfl) ?_
    refine lv_bipush (v := 24) hx hb d_Mo_quiet_41 (by decide) ?_
    refine lv_icmp_ge (tgt := 77) hx hb d_Mo_quiet_43 rfl (fun hc => ?_) (fun hc => ?_)
    · have h := mm_pos hc h
      refine lv_iload_n hx hb d_Mo_quiet_77 rfl (lv_at hl 1 rfl) ?_
      obtain ⟨hn, h⟩ := mm_nz_some h
      cases h
      exact mm_zret hx hb hr hn hlk hP hF d_Mo_quiet_78
    · have h := mm_neg hc h
      refine lv_iload_n hx hb d_Mo_quiet_46 rfl (lv_at hl 1 rfl) ?_
      refine lv_if_eq (tgt := 69) hx hb d_Mo_quiet_47 rfl (fun hc => ?_) (fun hc => ?_)
      · have h := mm_pos hc h
        refine lv_iconst (v := 0) hx hb d_Mo_quiet_69 (by decide) ?_
        refine lv_istore_n hx hb d_Mo_quiet_70 rfl hl (Nat.lt_of_lt_of_le (Nat.lt_succ_self _) (Nat.le_of_ble_eq_true rfl)) rfl (fun ls hl => ?_)
        have hl : lv_has ls 3 [(1, .int 0), (0, .ref (L.2.1 20 r0)), (2, .int x2)] := hl
        refine lv_iinc (k := 2) (v := (x2 + 1)) hx hb d_Mo_quiet_71 hl rfl (congrArg (fun z => x2 + z) mm_i1) (Nat.lt_of_lt_of_le (Nat.lt_succ_self _) (Nat.le_of_ble_eq_true rfl)) rfl (fun ls hl => ?_)
        have hl : lv_has ls 3 [(2, .int (x2 + 1)), (1, .int 0), (0, .ref (L.2.1 20 r0))] := hl
        refine lv_goto (tgt := 40) hx hb d_Mo_quiet_74 rfl ?_
        exact ih _ _ _ _ _ _ _ h hP hF (lv_sub (l' := [(0, .ref (L.2.1 20 r0)), (1, .int 0), (2, .int (x2 + 1))]) hl [2, 1, 0] rfl) hv_r0
      · have h := mm_neg hc h
        refine lv_aload_n hx hb d_Mo_quiet_50 rfl (lv_at hl 0 rfl) ?_
        refine mm_get (h := 20) (i := r0) 16 hX hP hv_r0 rfl rfl uin_20 (by decide) ⟨rfl, rfl, rfl⟩ wt_628 rfl d_Mo_quiet_51 ?_
        refine lv_iload_n hx hb d_Mo_quiet_54 rfl (lv_at hl 2 rfl) ?_
        obtain ⟨hin, h⟩ := mm_ix_some h
        refine mm_iald (h := 35) (i := 0) hX hP mm_ls35 (fun _ => rfl) rfl hin d_Mo_quiet_55 ?_
        refine lv_aload_n hx hb d_Mo_quiet_56 rfl (lv_at hl 0 rfl) ?_
        refine mm_get (h := 20) (i := r0) 15 hX hP hv_r0 rfl rfl uin_20 (by decide) ⟨rfl, rfl, rfl⟩ wt_627 rfl d_Mo_quiet_57 ?_
        refine lv_iload_n hx hb d_Mo_quiet_60 rfl (lv_at hl 2 rfl) ?_
        obtain ⟨hin, h⟩ := mm_ix_some h
        refine mm_iald (h := 34) (i := 0) hX hP mm_ls34 (fun _ => rfl) rfl hin d_Mo_quiet_61 ?_
        refine lv_icmp_ne (tgt := 69) hx hb d_Mo_quiet_62 rfl (fun hc => ?_) (fun hc => ?_)
        · have h := mm_neg hc h
          refine lv_iconst (v := 0) hx hb d_Mo_quiet_69 (by decide) ?_
          refine lv_istore_n hx hb d_Mo_quiet_70 rfl hl (Nat.lt_of_lt_of_le (Nat.lt_succ_self _) (Nat.le_of_ble_eq_true rfl)) rfl (fun ls hl => ?_)
          have hl : lv_has ls 3 [(1, .int 0), (0, .ref (L.2.1 20 r0)), (2, .int x2)] := hl
          refine lv_iinc (k := 2) (v := (x2 + 1)) hx hb d_Mo_quiet_71 hl rfl (congrArg (fun z => x2 + z) mm_i1) (Nat.lt_of_lt_of_le (Nat.lt_succ_self _) (Nat.le_of_ble_eq_true rfl)) rfl (fun ls hl => ?_)
          have hl : lv_has ls 3 [(2, .int (x2 + 1)), (1, .int 0), (0, .ref (L.2.1 20 r0))] := hl
          refine lv_goto (tgt := 40) hx hb d_Mo_quiet_74 rfl ?_
          exact ih _ _ _ _ _ _ _ h hP hF (lv_sub (l' := [(0, .ref (L.2.1 20 r0)), (1, .int 0), (2, .int (x2 + 1))]) hl [2, 1, 0] rfl) hv_r0
        · have h := mm_pos hc h
          refine lv_iconst (v := 1) hx hb d_Mo_quiet_65 (by decide) ?_
          refine lv_goto (tgt := 70) hx hb d_Mo_quiet_66 rfl ?_
          refine lv_istore_n hx hb d_Mo_quiet_70 rfl hl (Nat.lt_of_lt_of_le (Nat.lt_succ_self _) (Nat.le_of_ble_eq_true rfl)) rfl (fun ls hl => ?_)
          have hl : lv_has ls 3 [(1, .int 1), (0, .ref (L.2.1 20 r0)), (2, .int x2)] := hl
          refine lv_iinc (k := 2) (v := (x2 + 1)) hx hb d_Mo_quiet_71 hl rfl (congrArg (fun z => x2 + z) mm_i1) (Nat.lt_of_lt_of_le (Nat.lt_succ_self _) (Nat.le_of_ble_eq_true rfl)) rfl (fun ls hl => ?_)
          have hl : lv_has ls 3 [(2, .int (x2 + 1)), (1, .int 1), (0, .ref (L.2.1 20 r0))] := hl
          refine lv_goto (tgt := 40) hx hb d_Mo_quiet_74 rfl ?_
          exact ih _ _ _ _ _ _ _ h hP hF (lv_sub (l' := [(0, .ref (L.2.1 20 r0)), (1, .int 1), (2, .int (x2 + 1))]) hl [2, 1, 0] rfl) hv_r0
def f_Mo_quiet_b37 (n : Nat) (g : mm_M) (r0 : Nat) (t0 : Int32) : Option (Nat × Int32 × mm_M) :=
  f_Mo_quiet_l40 n 4096 g r0 t0 0
set_option maxRecDepth 100000 in
set_option maxHeartbeats 4000000 in
theorem w_Mo_quiet_b37 {p : Program} {l : Launch} {e : Env} {R : Room} {s : State} {m : MethodId} {args : Array Value} {below : List Frame} {meth : Method} {c : Code} {L : mm_L} {eo : Nat} {v : Int32} {g' : mm_M} {g : mm_M} {r0 : Nat} {t0 : Int32} {H : Heap} {locs : List Loc} {ls : Array Slot} (hX : mm_X L prog_9_method_40_code 3 "LoanArrowsModel" (some .boolean) 0 0 p l R s m meth c) (h : f_Mo_quiet_b37 L.1 g r0 t0 = some (eo, v, g')) (hP : mm_P L g H) (hF : ∀ q ∈ locs, mm_F L q.base) (hl : lv_has ls 3 [(0, .ref (L.2.1 20 r0))]) (hv_r0 : mm_lv L.1 20 r0) : W p l e R s m args below meth c H locs 0 0 (mm_Q below L s (mm_oi eo v) g') (F0 m 37 ls [.int t0]) := by
  have hX0 := hX
  obtain ⟨hx, hb, hml, hown, hr, hlk, hex, hRf, hRl, hRc, hRs, hJ, hK, hst, h00⟩ := hX0
  unfold f_Mo_quiet_b37 at h
  refine lv_istore_n hx hb d_Mo_quiet_37 rfl hl (Nat.lt_of_lt_of_le (Nat.lt_succ_self _) (Nat.le_of_ble_eq_true rfl)) rfl (fun ls hl => ?_)
  have hl : lv_has ls 3 [(1, .int t0), (0, .ref (L.2.1 20 r0))] := hl
  refine lv_iconst (v := 0) hx hb d_Mo_quiet_38 (by decide) ?_
  refine lv_istore_n hx hb d_Mo_quiet_39 rfl hl (Nat.lt_of_lt_of_le (Nat.lt_succ_self _) (Nat.le_of_ble_eq_true rfl)) rfl (fun ls hl => ?_)
  have hl : lv_has ls 3 [(2, .int 0), (1, .int t0), (0, .ref (L.2.1 20 r0))] := hl
  exact w_Mo_quiet_l40 hX _ _ _ _ _ _ _ _ h hP hF (lv_sub (l' := [(0, .ref (L.2.1 20 r0)), (1, .int t0), (2, .int 0)]) hl [2, 1, 0] rfl) hv_r0
def f_Mo_quiet_b36 (n : Nat) (g : mm_M) (r0 : Nat) : Option (Nat × Int32 × mm_M) :=
  f_Mo_quiet_b37 n g r0 0
set_option maxRecDepth 100000 in
set_option maxHeartbeats 4000000 in
theorem w_Mo_quiet_b36 {p : Program} {l : Launch} {e : Env} {R : Room} {s : State} {m : MethodId} {args : Array Value} {below : List Frame} {meth : Method} {c : Code} {L : mm_L} {eo : Nat} {v : Int32} {g' : mm_M} {g : mm_M} {r0 : Nat} {H : Heap} {locs : List Loc} {ls : Array Slot} (hX : mm_X L prog_9_method_40_code 3 "LoanArrowsModel" (some .boolean) 0 0 p l R s m meth c) (h : f_Mo_quiet_b36 L.1 g r0 = some (eo, v, g')) (hP : mm_P L g H) (hF : ∀ q ∈ locs, mm_F L q.base) (hl : lv_has ls 3 [(0, .ref (L.2.1 20 r0))]) (hv_r0 : mm_lv L.1 20 r0) : W p l e R s m args below meth c H locs 0 0 (mm_Q below L s (mm_oi eo v) g') (F0 m 36 ls []) := by
  have hX0 := hX
  obtain ⟨hx, hb, hml, hown, hr, hlk, hex, hRf, hRl, hRc, hRs, hJ, hK, hst, h00⟩ := hX0
  unfold f_Mo_quiet_b36 at h
  refine lv_iconst (v := 0) hx hb d_Mo_quiet_36 (by decide) ?_
  exact w_Mo_quiet_b37 hX h hP hF (lv_sub (l' := [(0, .ref (L.2.1 20 r0))]) hl [0] rfl) hv_r0
def f_Mo_quiet (n : Nat) (g : mm_M) (r0 : Nat) : Option (Nat × Int32 × mm_M) :=
  mm_let (mm_st g 20 r0 0 0) (fun g1 => mm_ix 0 3 ((if (g1 31 0 (0 : Int32).toNatClampNeg) = 0 then mm_ix 1 3 ((if (g1 31 0 (1 : Int32).toNatClampNeg) = 0 then mm_ix 2 3 ((if (g1 31 0 (2 : Int32).toNatClampNeg) = 0 then f_Mo_quiet_b37 n g1 r0 1 else f_Mo_quiet_b36 n g1 r0)) else f_Mo_quiet_b36 n g1 r0)) else f_Mo_quiet_b36 n g1 r0)))
set_option maxRecDepth 100000 in
set_option maxHeartbeats 4000000 in
theorem w_Mo_quiet {p : Program} {l : Launch} {e : Env} {R : Room} {s : State} {m : MethodId} {args : Array Value} {below : List Frame} {meth : Method} {c : Code} {L : mm_L} {eo : Nat} {v : Int32} {g' : mm_M} {g : mm_M} {r0 : Nat} {H : Heap} {locs : List Loc} {ls : Array Slot} (hX : mm_X L prog_9_method_40_code 3 "LoanArrowsModel" (some .boolean) 0 0 p l R s m meth c) (h : f_Mo_quiet L.1 g r0 = some (eo, v, g')) (hP : mm_P L g H) (hF : ∀ q ∈ locs, mm_F L q.base) (hl : lv_has ls 3 [(0, .ref (L.2.1 20 r0))]) (hv_r0 : mm_lv L.1 20 r0) : W p l e R s m args below meth c H locs 0 0 (mm_Q below L s (mm_oi eo v) g') (F0 m 0 ls []) := by
  have hX0 := hX
  obtain ⟨hx, hb, hml, hown, hr, hlk, hex, hRf, hRl, hRc, hRs, hJ, hK, hst, h00⟩ := hX0
  unfold f_Mo_quiet at h
  refine lv_aload_n hx hb d_Mo_quiet_0 rfl (lv_at hl 0 rfl) ?_
  refine lv_iconst (v := 0) hx hb d_Mo_quiet_1 (by decide) ?_
  refine mm_put (h := 20) (i := r0) 0 hX hP hF hv_r0 rfl rfl rfl uin_20 ty_20 tyok_20 nmok_20 (by decide) ⟨rfl, rfl, rfl⟩ rfl wt_612 rfl rfl rfl (Nat.le_of_ble_eq_true rfl) d_Mo_quiet_2 (fun H locs hP hF => ?_)
  obtain ⟨g1, e2, h⟩ := mm_let_ex h
  have hP : mm_P L g1 H := by rw [e2]; exact hP
  refine lv_aload_n hx hb d_Mo_quiet_5 rfl (lv_at hl 0 rfl) ?_
  refine mm_get (h := 20) (i := r0) 12 hX hP hv_r0 rfl rfl uin_20 (by decide) ⟨rfl, rfl, rfl⟩ wt_624 rfl d_Mo_quiet_6 ?_
  refine lv_iconst (v := 0) hx hb d_Mo_quiet_9 (by decide) ?_
  obtain ⟨hin, h⟩ := mm_ix_some h
  refine mm_zald (h := 31) (i := 0) hX hP mm_ls31 (fun _ => rfl) rfl hin d_Mo_quiet_10 ?_
  refine lv_if_ne (tgt := 36) hx hb d_Mo_quiet_11 rfl (fun hc => ?_) (fun hc => ?_)
  · have h := mm_neg hc h
    exact w_Mo_quiet_b36 hX h hP hF (lv_sub (l' := [(0, .ref (L.2.1 20 r0))]) hl [0] rfl) hv_r0
  · have h := mm_pos hc h
    refine lv_aload_n hx hb d_Mo_quiet_14 rfl (lv_at hl 0 rfl) ?_
    refine mm_get (h := 20) (i := r0) 12 hX hP hv_r0 rfl rfl uin_20 (by decide) ⟨rfl, rfl, rfl⟩ wt_624 rfl d_Mo_quiet_15 ?_
    refine lv_iconst (v := 1) hx hb d_Mo_quiet_18 (by decide) ?_
    obtain ⟨hin, h⟩ := mm_ix_some h
    refine mm_zald (h := 31) (i := 0) hX hP mm_ls31 (fun _ => rfl) rfl hin d_Mo_quiet_19 ?_
    refine lv_if_ne (tgt := 36) hx hb d_Mo_quiet_20 rfl (fun hc => ?_) (fun hc => ?_)
    · have h := mm_neg hc h
      exact w_Mo_quiet_b36 hX h hP hF (lv_sub (l' := [(0, .ref (L.2.1 20 r0))]) hl [0] rfl) hv_r0
    · have h := mm_pos hc h
      refine lv_aload_n hx hb d_Mo_quiet_23 rfl (lv_at hl 0 rfl) ?_
      refine mm_get (h := 20) (i := r0) 12 hX hP hv_r0 rfl rfl uin_20 (by decide) ⟨rfl, rfl, rfl⟩ wt_624 rfl d_Mo_quiet_24 ?_
      refine lv_iconst (v := 2) hx hb d_Mo_quiet_27 (by decide) ?_
      obtain ⟨hin, h⟩ := mm_ix_some h
      refine mm_zald (h := 31) (i := 0) hX hP mm_ls31 (fun _ => rfl) rfl hin d_Mo_quiet_28 ?_
      refine lv_if_ne (tgt := 36) hx hb d_Mo_quiet_29 rfl (fun hc => ?_) (fun hc => ?_)
      · have h := mm_neg hc h
        exact w_Mo_quiet_b36 hX h hP hF (lv_sub (l' := [(0, .ref (L.2.1 20 r0))]) hl [0] rfl) hv_r0
      · have h := mm_pos hc h
        refine lv_iconst (v := 1) hx hb d_Mo_quiet_32 (by decide) ?_
        refine lv_goto (tgt := 37) hx hb d_Mo_quiet_33 rfl ?_
        exact w_Mo_quiet_b37 hX h hP hF (lv_sub (l' := [(0, .ref (L.2.1 20 r0))]) hl [0] rfl) hv_r0
set_option maxRecDepth 100000 in
set_option maxHeartbeats 4000000 in
theorem c_Mo_quiet {l : Launch} {L : mm_L} {g g' : mm_M} {eo : Nat} {v : Int32} {r0 : Nat} (hv_r0 : mm_lv L.1 20 r0) (h : f_Mo_quiet L.1 g r0 = some (eo, v, g')) : mm_C l y_Mo_quiet prog_9_method_40_code 3 (some .boolean) 0 0 L [.ref (L.2.1 20 r0)] g (mm_oi eo v) g' := by
  intro p e R s m below meth c hX hP
  refine mm_enter (Nat.le_of_ble_eq_true rfl) fun ls hl => ?_
  exact w_Mo_quiet hX h hP (fun q hq => by cases hq) (lv_sub (l' := [(0, .ref (L.2.1 20 r0))]) hl [0] rfl) hv_r0

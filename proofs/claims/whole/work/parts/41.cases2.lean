def f_Lw_case721 (n : Nat) (xs : Nat → Int32) (Ln : Nat) (g : mm_M) (x4 : Int32) : Option mm_M :=
  mm_ix (x4 + 1) Ln (mm_ob (f_Lw_twin n g 0 (xs (x4 + 1).toNatClampNeg) 0) (fun z1 g2 => mm_ix (x4 + 1) Ln (mm_tc (f_Mo_twin n g2 0 (xs (x4 + 1).toNatClampNeg)) (fun z4 g5 => mm_tc (f_Mo_thrown n g5 0) (fun z7 g8 => (if z7 = z1 then (if z1 = 0 then (if z4 = 0 then (if (lg_cmp (Int32.toInt64 (g8 50 0 0)) (Int32.toInt64 0)) = 0 then some g8 else none) else (if (lg_cmp (Int32.toInt64 (g8 50 0 0)) (Int32.toInt64 1)) = 0 then some g8 else none)) else some g8) else none)) (fun _ _ => none)) (fun _ _ => none))))
set_option maxRecDepth 100000 in
set_option maxHeartbeats 4000000 in
theorem w_Lw_case721 {p : Program} {l : Launch} {e : Env} {R : Room} {s : State} {m : MethodId} {args : Array Value} {below : List Frame} {meth : Method} {c : Code} {L : mm_L} {hh : List (Nat × Nat × Nat × Nat)} {Q : State → Prop} {b Ln : Nat} {xs : Nat → Int32} {scr : Cell} {g g' : mm_M} {x4 : Int32} {H : Heap} {locs : List Loc} {ls : Array Slot} {cells slots : Nat} (hX : mm_Xh hh L code 7 "LoanArrowsLaw" (some .boolean) 11 392 p l R s m meth c) (hb0 : ¬ mm_F L b) (hss : mm_scr s scr Ln xs) (h : f_Lw_case721 L.1 xs Ln g x4 = some g') (hP : mm_P L g H) (hF : ∀ q ∈ locs, mm_F L q.base) (hsc : H[b]? = some scr) (hl : lv_has ls 7 [(0, .ref b), (1, .ref (L.2.1 0 0)), (2, .ref (L.2.1 20 0)), (3, .ref (L.2.1 50 0)), (4, .int x4)]) (hcA : cells + 2 ≤ R.cells) (hsA : slots + 12 ≤ R.slots)
    (kk : ∀ (H1 : Heap) (locs1 : List Loc) (ls1 : Array Slot) (cells1 slots1 : Nat), mm_P L g' H1 → (∀ q ∈ locs1, mm_F L q.base) → H1[b]? = some scr → lv_has ls1 7 [(0, .ref b), (1, .ref (L.2.1 0 0)), (2, .ref (L.2.1 20 0)), (3, .ref (L.2.1 50 0)), (4, .int x4)] → cells1 ≤ cells + 1 → slots1 ≤ slots + 6 → W p l e R s m args below meth c H1 locs1 cells1 slots1 Q (F0 m 1316 ls1 [])) : W p l e R s m args below meth c H locs cells slots Q (F0 m 721 ls []) := by
  have hX0 := hX
  obtain ⟨hx, hb, hml, hown, hr, hlk, hex, hRf, hRl, hRc, hRs, hJ, hK, hst, h00⟩ := hX0
  unfold f_Lw_case721 at h
  refine lv_aload_n hx hb d_Lw_law_721 rfl (lv_at hl 1 rfl) ?_
  refine lv_aload_n hx hb d_Lw_law_722 rfl (lv_at hl 0 rfl) ?_
  refine lv_iload hx hb d_Lw_law_723 (lv_at hl 4 rfl) ?_
  refine lv_iconst (v := 1) hx hb d_Lw_law_725 (by decide) ?_
  refine lv_iadd hx hb d_Lw_law_726 ?_
  obtain ⟨hin, h⟩ := mm_ix_some h
  refine mm_sld hX hsc hss hin d_Lw_law_727 ?_
  refine lv_aload_n hx hb d_Lw_law_728 rfl (lv_at hl 3 rfl) ?_
  obtain ⟨⟨z1, g2⟩, hf3, h⟩ := mm_ob_some h
  refine mm_goS1 (As := [.ref (L.2.1 0 0), .int (xs (x4 + 1).toNatClampNeg), .ref (L.2.1 50 0)]) (rest := []) hX (c_Lw_twin mm_ls0 mm_ls50 hf3) wt_522 (by decide +kernel) ⟨by decide +kernel, by decide +kernel⟩ (by show (parseMethodDescriptor (y_Lw_twin).desc).map (fun d => d.parameters.length) = some 3; decide +kernel) wt_520 wt_521 wt_0 hP hF rfl hl.1 (Nat.le_of_ble_eq_true rfl) (by decide) (by decide) (by omega) (by omega) d_Lw_law_729 (fun H locs hP hF hO => ?_)
  have hsc := hO b scr hb0 hsc
  refine lv_istore hx hb d_Lw_law_732 hl (Nat.lt_of_lt_of_le (Nat.lt_succ_self _) (Nat.le_of_ble_eq_true rfl)) rfl (fun ls hl => ?_)
  have hl : lv_has ls 7 [(5, .int z1), (0, .ref b), (1, .ref (L.2.1 0 0)), (2, .ref (L.2.1 20 0)), (3, .ref (L.2.1 50 0)), (4, .int x4)] := hl
  refine lv_aload_n hx hb d_Lw_law_734 rfl (lv_at hl 3 rfl) ?_
  refine lv_aload_n hx hb d_Lw_law_735 rfl (lv_at hl 1 rfl) ?_
  refine lv_iload hx hb d_Lw_law_736 (lv_at hl 5 rfl) ?_
  refine lv_iconst (v := 1) hx hb d_Lw_law_738 (by decide) ?_
  refine lv_iadd hx hb d_Lw_law_739 ?_
  obtain ⟨hin, h⟩ := mm_ix_some h
  refine mm_sld hX hsc hss hin d_Lw_law_740 ?_
  rcases mm_tc_some h with ⟨z4, g5, hf6, h⟩ | ⟨xe, z4, g5, hf6, h⟩
  · refine mm_goR (v := (some (.int z4))) (mm_goV (As := [.int (xs (x4 + 1).toNatClampNeg)]) (rest := []) hX (c_Mo_twin mm_ls20 hf6) yw_Mo_twin wt_808 wt_809 wt_810 hP hF (mm_recv (h := 20) (i := 0) hX hP mm_ls20 rfl rfl) rfl hl.1 (Nat.le_of_ble_eq_true rfl) (by decide) (by decide) (by omega) (by omega) d_Lw_law_741) hF (fun H locs hP hF hO => ?_)
    have hsc := hO b scr hb0 hsc
    refine lv_istore hx hb d_Lw_law_744 hl (Nat.lt_of_lt_of_le (Nat.lt_succ_self _) (Nat.le_of_ble_eq_true rfl)) rfl (fun ls hl => ?_)
    have hl : lv_has ls 7 [(6, .int z4), (5, .int z1), (0, .ref b), (1, .ref (L.2.1 0 0)), (2, .ref (L.2.1 20 0)), (3, .ref (L.2.1 50 0)), (4, .int x4)] := hl
    refine lv_aload_n hx hb d_Lw_law_746 rfl (lv_at hl 4 rfl) ?_
    rcases mm_tc_some h with ⟨z7, g8, hf9, h⟩ | ⟨xe, z7, g8, hf9, h⟩
    · refine mm_goR (v := (some (.int z7))) (mm_goV (As := []) (rest := []) hX (c_Mo_thrown mm_ls20 hf9) yw_Mo_thrown wt_694 wt_695 wt_696 hP hF (mm_recv (h := 20) (i := 0) hX hP mm_ls20 rfl rfl) rfl hl.1 (Nat.le_of_ble_eq_true rfl) (by decide) (by decide) (by omega) (by omega) d_Lw_law_747) hF (fun H locs hP hF hO => ?_)
      have hsc := hO b scr hb0 hsc
      refine lv_iload hx hb d_Lw_law_750 (lv_at hl 1 rfl) ?_
      refine lv_icmp_eq (tgt := 757) hx hb d_Lw_law_752 rfl (fun hc => ?_) (fun hc => ?_)
      · have h := mm_pos hc h
        refine lv_iload hx hb d_Lw_law_757 (lv_at hl 1 rfl) ?_
        refine lv_if_ne (tgt := 781) hx hb d_Lw_law_759 rfl (fun hc => ?_) (fun hc => ?_)
        · have h := mm_neg hc h
          refine lv_goto (tgt := 1316) hx hb d_Lw_law_781 rfl ?_
          cases h
          exact kk _ _ _ _ _ hP hF hsc (lv_sub (l' := [(0, .ref b), (1, .ref (L.2.1 0 0)), (2, .ref (L.2.1 20 0)), (3, .ref (L.2.1 50 0)), (4, .int x4)]) hl [2, 3, 4, 5, 6] rfl) (by omega) (by omega)
        · have h := mm_pos hc h
          refine lv_aload_n hx hb d_Lw_law_762 rfl (lv_at hl 5 rfl) ?_
          refine lv_iconst (v := 0) hx hb d_Lw_law_763 (by decide) ?_
          refine mm_lald hX hP d_Lw_law_764 ?_
          refine lv_iload hx hb d_Lw_law_765 (lv_at hl 0 rfl) ?_
          refine lv_if_eq (tgt := 774) hx hb d_Lw_law_767 rfl (fun hc => ?_) (fun hc => ?_)
          · have h := mm_pos hc h
            refine lv_lconst (v := Int32.toInt64 0) hx hb d_Lw_law_774 (by decide) ?_
            refine W.lcmp hx hb d_Lw_law_775 ?_
            refine lv_if_eq (tgt := 781) hx hb d_Lw_law_776 rfl (fun hc => ?_) (fun hc => ?_)
            · have h := mm_pos hc h
              refine lv_goto (tgt := 1316) hx hb d_Lw_law_781 rfl ?_
              cases h
              exact kk _ _ _ _ _ hP hF hsc (lv_sub (l' := [(0, .ref b), (1, .ref (L.2.1 0 0)), (2, .ref (L.2.1 20 0)), (3, .ref (L.2.1 50 0)), (4, .int x4)]) hl [2, 3, 4, 5, 6] rfl) (by omega) (by omega)
            · have h := mm_neg hc h
              refine lv_iconst (v := 0) hx hb d_Lw_law_779 (by decide) ?_
              cases h
          · have h := mm_neg hc h
            refine lv_lconst (v := Int32.toInt64 1) hx hb d_Lw_law_770 (by decide) ?_
            refine lv_goto (tgt := 775) hx hb d_Lw_law_771 rfl ?_
            refine W.lcmp hx hb d_Lw_law_775 ?_
            refine lv_if_eq (tgt := 781) hx hb d_Lw_law_776 rfl (fun hc => ?_) (fun hc => ?_)
            · have h := mm_pos hc h
              refine lv_goto (tgt := 1316) hx hb d_Lw_law_781 rfl ?_
              cases h
              exact kk _ _ _ _ _ hP hF hsc (lv_sub (l' := [(0, .ref b), (1, .ref (L.2.1 0 0)), (2, .ref (L.2.1 20 0)), (3, .ref (L.2.1 50 0)), (4, .int x4)]) hl [2, 3, 4, 5, 6] rfl) (by omega) (by omega)
            · have h := mm_neg hc h
              refine lv_iconst (v := 0) hx hb d_Lw_law_779 (by decide) ?_
              cases h
      · have h := mm_neg hc h
        refine lv_iconst (v := 0) hx hb d_Lw_law_755 (by decide) ?_
        cases h
    · cases h
  · cases h
def f_Lw_case784 (n : Nat) (xs : Nat → Int32) (Ln : Nat) (g : mm_M) (x4 : Int32) : Option mm_M :=
  mm_ix (x4 + 1) Ln (mm_ob (f_Lw_crash n g 0 (xs (x4 + 1).toNatClampNeg)) (fun z1 g2 => mm_ix (x4 + 1) Ln (mm_tc (f_Mo_crash n g2 0 (xs (x4 + 1).toNatClampNeg)) (fun z4 g5 => mm_tc (f_Mo_thrown n g5 0) (fun z7 g8 => (if z7 = z1 then some g8 else none)) (fun _ _ => none)) (fun _ _ => none))))
set_option maxRecDepth 100000 in
set_option maxHeartbeats 4000000 in
theorem w_Lw_case784 {p : Program} {l : Launch} {e : Env} {R : Room} {s : State} {m : MethodId} {args : Array Value} {below : List Frame} {meth : Method} {c : Code} {L : mm_L} {hh : List (Nat × Nat × Nat × Nat)} {Q : State → Prop} {b Ln : Nat} {xs : Nat → Int32} {scr : Cell} {g g' : mm_M} {x4 : Int32} {H : Heap} {locs : List Loc} {ls : Array Slot} {cells slots : Nat} (hX : mm_Xh hh L code 7 "LoanArrowsLaw" (some .boolean) 11 392 p l R s m meth c) (hb0 : ¬ mm_F L b) (hss : mm_scr s scr Ln xs) (h : f_Lw_case784 L.1 xs Ln g x4 = some g') (hP : mm_P L g H) (hF : ∀ q ∈ locs, mm_F L q.base) (hsc : H[b]? = some scr) (hl : lv_has ls 7 [(0, .ref b), (1, .ref (L.2.1 0 0)), (2, .ref (L.2.1 20 0)), (3, .ref (L.2.1 50 0)), (4, .int x4)]) (hcA : cells + 2 ≤ R.cells) (hsA : slots + 12 ≤ R.slots)
    (kk : ∀ (H1 : Heap) (locs1 : List Loc) (ls1 : Array Slot) (cells1 slots1 : Nat), mm_P L g' H1 → (∀ q ∈ locs1, mm_F L q.base) → H1[b]? = some scr → lv_has ls1 7 [(0, .ref b), (1, .ref (L.2.1 0 0)), (2, .ref (L.2.1 20 0)), (3, .ref (L.2.1 50 0)), (4, .int x4)] → cells1 ≤ cells + 1 → slots1 ≤ slots + 6 → W p l e R s m args below meth c H1 locs1 cells1 slots1 Q (F0 m 1316 ls1 [])) : W p l e R s m args below meth c H locs cells slots Q (F0 m 784 ls []) := by
  have hX0 := hX
  obtain ⟨hx, hb, hml, hown, hr, hlk, hex, hRf, hRl, hRc, hRs, hJ, hK, hst, h00⟩ := hX0
  unfold f_Lw_case784 at h
  refine lv_aload_n hx hb d_Lw_law_784 rfl (lv_at hl 1 rfl) ?_
  refine lv_aload_n hx hb d_Lw_law_785 rfl (lv_at hl 0 rfl) ?_
  refine lv_iload hx hb d_Lw_law_786 (lv_at hl 4 rfl) ?_
  refine lv_iconst (v := 1) hx hb d_Lw_law_788 (by decide) ?_
  refine lv_iadd hx hb d_Lw_law_789 ?_
  obtain ⟨hin, h⟩ := mm_ix_some h
  refine mm_sld hX hsc hss hin d_Lw_law_790 ?_
  obtain ⟨⟨z1, g2⟩, hf3, h⟩ := mm_ob_some h
  refine mm_goS1 (As := [.ref (L.2.1 0 0), .int (xs (x4 + 1).toNatClampNeg)]) (rest := []) hX (c_Lw_crash mm_ls0 hf3) wt_533 (by decide +kernel) ⟨by decide +kernel, by decide +kernel⟩ (by show (parseMethodDescriptor (y_Lw_crash).desc).map (fun d => d.parameters.length) = some 2; decide +kernel) wt_531 wt_532 wt_0 hP hF rfl hl.1 (Nat.le_of_ble_eq_true rfl) (by decide) (by decide) (by omega) (by omega) d_Lw_law_791 (fun H locs hP hF hO => ?_)
  have hsc := hO b scr hb0 hsc
  refine lv_istore hx hb d_Lw_law_794 hl (Nat.lt_of_lt_of_le (Nat.lt_succ_self _) (Nat.le_of_ble_eq_true rfl)) rfl (fun ls hl => ?_)
  have hl : lv_has ls 7 [(5, .int z1), (0, .ref b), (1, .ref (L.2.1 0 0)), (2, .ref (L.2.1 20 0)), (3, .ref (L.2.1 50 0)), (4, .int x4)] := hl
  refine lv_aload_n hx hb d_Lw_law_796 rfl (lv_at hl 3 rfl) ?_
  refine lv_aload_n hx hb d_Lw_law_797 rfl (lv_at hl 1 rfl) ?_
  refine lv_iload hx hb d_Lw_law_798 (lv_at hl 5 rfl) ?_
  refine lv_iconst (v := 1) hx hb d_Lw_law_800 (by decide) ?_
  refine lv_iadd hx hb d_Lw_law_801 ?_
  obtain ⟨hin, h⟩ := mm_ix_some h
  refine mm_sld hX hsc hss hin d_Lw_law_802 ?_
  rcases mm_tc_some h with ⟨z4, g5, hf6, h⟩ | ⟨xe, z4, g5, hf6, h⟩
  · refine mm_goR (v := none) (mm_goV (As := [.int (xs (x4 + 1).toNatClampNeg)]) (rest := []) hX (c_Mo_crash mm_ls20 hf6) yw_Mo_crash wt_812 wt_813 wt_814 hP hF (mm_recv (h := 20) (i := 0) hX hP mm_ls20 rfl rfl) rfl hl.1 (Nat.le_of_ble_eq_true rfl) (by decide) (by decide) (by omega) (by omega) d_Lw_law_803) hF (fun H locs hP hF hO => ?_)
    have hsc := hO b scr hb0 hsc
    refine lv_aload_n hx hb d_Lw_law_806 rfl (lv_at hl 3 rfl) ?_
    rcases mm_tc_some h with ⟨z7, g8, hf9, h⟩ | ⟨xe, z7, g8, hf9, h⟩
    · refine mm_goR (v := (some (.int z7))) (mm_goV (As := []) (rest := []) hX (c_Mo_thrown mm_ls20 hf9) yw_Mo_thrown wt_694 wt_695 wt_696 hP hF (mm_recv (h := 20) (i := 0) hX hP mm_ls20 rfl rfl) rfl hl.1 (Nat.le_of_ble_eq_true rfl) (by decide) (by decide) (by omega) (by omega) d_Lw_law_807) hF (fun H locs hP hF hO => ?_)
      have hsc := hO b scr hb0 hsc
      refine lv_iload hx hb d_Lw_law_810 (lv_at hl 0 rfl) ?_
      refine lv_icmp_eq (tgt := 817) hx hb d_Lw_law_812 rfl (fun hc => ?_) (fun hc => ?_)
      · have h := mm_pos hc h
        refine lv_goto (tgt := 1316) hx hb d_Lw_law_817 rfl ?_
        cases h
        exact kk _ _ _ _ _ hP hF hsc (lv_sub (l' := [(0, .ref b), (1, .ref (L.2.1 0 0)), (2, .ref (L.2.1 20 0)), (3, .ref (L.2.1 50 0)), (4, .int x4)]) hl [1, 2, 3, 4, 5] rfl) (by omega) (by omega)
      · have h := mm_neg hc h
        refine lv_iconst (v := 0) hx hb d_Lw_law_815 (by decide) ?_
        cases h
    · cases h
  · cases h
def f_Lw_case820 (n : Nat) (xs : Nat → Int32) (Ln : Nat) (g : mm_M) (x4 : Int32) : Option mm_M :=
  mm_ix (x4 + 1) Ln (mm_ob (f_Lw_restart n g 0 (xs (x4 + 1).toNatClampNeg) 0) (fun z1 g2 => mm_ix (x4 + 1) Ln (mm_tc (f_Mo_restart n g2 0 (xs (x4 + 1).toNatClampNeg)) (fun z4 g5 => mm_tc (f_Mo_thrown n g5 0) (fun z7 g8 => (if z7 = z1 then (if z1 = 0 then (if (lg_cmp (Int32.toInt64 (g8 50 0 0)) (Int32.toInt64 z4)) = 0 then some g8 else none) else some g8) else none)) (fun _ _ => none)) (fun _ _ => none))))
set_option maxRecDepth 100000 in
set_option maxHeartbeats 4000000 in
theorem w_Lw_case820 {p : Program} {l : Launch} {e : Env} {R : Room} {s : State} {m : MethodId} {args : Array Value} {below : List Frame} {meth : Method} {c : Code} {L : mm_L} {hh : List (Nat × Nat × Nat × Nat)} {Q : State → Prop} {b Ln : Nat} {xs : Nat → Int32} {scr : Cell} {g g' : mm_M} {x4 : Int32} {H : Heap} {locs : List Loc} {ls : Array Slot} {cells slots : Nat} (hX : mm_Xh hh L code 7 "LoanArrowsLaw" (some .boolean) 11 392 p l R s m meth c) (hb0 : ¬ mm_F L b) (hss : mm_scr s scr Ln xs) (h : f_Lw_case820 L.1 xs Ln g x4 = some g') (hP : mm_P L g H) (hF : ∀ q ∈ locs, mm_F L q.base) (hsc : H[b]? = some scr) (hl : lv_has ls 7 [(0, .ref b), (1, .ref (L.2.1 0 0)), (2, .ref (L.2.1 20 0)), (3, .ref (L.2.1 50 0)), (4, .int x4)]) (hcA : cells + 2 ≤ R.cells) (hsA : slots + 12 ≤ R.slots)
    (kk : ∀ (H1 : Heap) (locs1 : List Loc) (ls1 : Array Slot) (cells1 slots1 : Nat), mm_P L g' H1 → (∀ q ∈ locs1, mm_F L q.base) → H1[b]? = some scr → lv_has ls1 7 [(0, .ref b), (1, .ref (L.2.1 0 0)), (2, .ref (L.2.1 20 0)), (3, .ref (L.2.1 50 0)), (4, .int x4)] → cells1 ≤ cells + 1 → slots1 ≤ slots + 6 → W p l e R s m args below meth c H1 locs1 cells1 slots1 Q (F0 m 1316 ls1 [])) : W p l e R s m args below meth c H locs cells slots Q (F0 m 820 ls []) := by
  have hX0 := hX
  obtain ⟨hx, hb, hml, hown, hr, hlk, hex, hRf, hRl, hRc, hRs, hJ, hK, hst, h00⟩ := hX0
  unfold f_Lw_case820 at h
  refine lv_aload_n hx hb d_Lw_law_820 rfl (lv_at hl 1 rfl) ?_
  refine lv_aload_n hx hb d_Lw_law_821 rfl (lv_at hl 0 rfl) ?_
  refine lv_iload hx hb d_Lw_law_822 (lv_at hl 4 rfl) ?_
  refine lv_iconst (v := 1) hx hb d_Lw_law_824 (by decide) ?_
  refine lv_iadd hx hb d_Lw_law_825 ?_
  obtain ⟨hin, h⟩ := mm_ix_some h
  refine mm_sld hX hsc hss hin d_Lw_law_826 ?_
  refine lv_aload_n hx hb d_Lw_law_827 rfl (lv_at hl 3 rfl) ?_
  obtain ⟨⟨z1, g2⟩, hf3, h⟩ := mm_ob_some h
  refine mm_goS1 (As := [.ref (L.2.1 0 0), .int (xs (x4 + 1).toNatClampNeg), .ref (L.2.1 50 0)]) (rest := []) hX (c_Lw_restart mm_ls0 mm_ls50 hf3) wt_540 (by decide +kernel) ⟨by decide +kernel, by decide +kernel⟩ (by show (parseMethodDescriptor (y_Lw_restart).desc).map (fun d => d.parameters.length) = some 3; decide +kernel) wt_538 wt_539 wt_0 hP hF rfl hl.1 (Nat.le_of_ble_eq_true rfl) (by decide) (by decide) (by omega) (by omega) d_Lw_law_828 (fun H locs hP hF hO => ?_)
  have hsc := hO b scr hb0 hsc
  refine lv_istore hx hb d_Lw_law_831 hl (Nat.lt_of_lt_of_le (Nat.lt_succ_self _) (Nat.le_of_ble_eq_true rfl)) rfl (fun ls hl => ?_)
  have hl : lv_has ls 7 [(5, .int z1), (0, .ref b), (1, .ref (L.2.1 0 0)), (2, .ref (L.2.1 20 0)), (3, .ref (L.2.1 50 0)), (4, .int x4)] := hl
  refine lv_aload_n hx hb d_Lw_law_833 rfl (lv_at hl 3 rfl) ?_
  refine lv_aload_n hx hb d_Lw_law_834 rfl (lv_at hl 1 rfl) ?_
  refine lv_iload hx hb d_Lw_law_835 (lv_at hl 5 rfl) ?_
  refine lv_iconst (v := 1) hx hb d_Lw_law_837 (by decide) ?_
  refine lv_iadd hx hb d_Lw_law_838 ?_
  obtain ⟨hin, h⟩ := mm_ix_some h
  refine mm_sld hX hsc hss hin d_Lw_law_839 ?_
  rcases mm_tc_some h with ⟨z4, g5, hf6, h⟩ | ⟨xe, z4, g5, hf6, h⟩
  · refine mm_goR (v := (some (.int z4))) (mm_goV (As := [.int (xs (x4 + 1).toNatClampNeg)]) (rest := []) hX (c_Mo_restart mm_ls20 hf6) yw_Mo_restart wt_816 wt_817 wt_818 hP hF (mm_recv (h := 20) (i := 0) hX hP mm_ls20 rfl rfl) rfl hl.1 (Nat.le_of_ble_eq_true rfl) (by decide) (by decide) (by omega) (by omega) d_Lw_law_840) hF (fun H locs hP hF hO => ?_)
    have hsc := hO b scr hb0 hsc
    refine lv_istore hx hb d_Lw_law_843 hl (Nat.lt_of_lt_of_le (Nat.lt_succ_self _) (Nat.le_of_ble_eq_true rfl)) rfl (fun ls hl => ?_)
    have hl : lv_has ls 7 [(6, .int z4), (5, .int z1), (0, .ref b), (1, .ref (L.2.1 0 0)), (2, .ref (L.2.1 20 0)), (3, .ref (L.2.1 50 0)), (4, .int x4)] := hl
    refine lv_aload_n hx hb d_Lw_law_845 rfl (lv_at hl 4 rfl) ?_
    rcases mm_tc_some h with ⟨z7, g8, hf9, h⟩ | ⟨xe, z7, g8, hf9, h⟩
    · refine mm_goR (v := (some (.int z7))) (mm_goV (As := []) (rest := []) hX (c_Mo_thrown mm_ls20 hf9) yw_Mo_thrown wt_694 wt_695 wt_696 hP hF (mm_recv (h := 20) (i := 0) hX hP mm_ls20 rfl rfl) rfl hl.1 (Nat.le_of_ble_eq_true rfl) (by decide) (by decide) (by omega) (by omega) d_Lw_law_846) hF (fun H locs hP hF hO => ?_)
      have hsc := hO b scr hb0 hsc
      refine lv_iload hx hb d_Lw_law_849 (lv_at hl 1 rfl) ?_
      refine lv_icmp_eq (tgt := 856) hx hb d_Lw_law_851 rfl (fun hc => ?_) (fun hc => ?_)
      · have h := mm_pos hc h
        refine lv_iload hx hb d_Lw_law_856 (lv_at hl 1 rfl) ?_
        refine lv_if_ne (tgt := 873) hx hb d_Lw_law_858 rfl (fun hc => ?_) (fun hc => ?_)
        · have h := mm_neg hc h
          refine lv_goto (tgt := 1316) hx hb d_Lw_law_873 rfl ?_
          cases h
          exact kk _ _ _ _ _ hP hF hsc (lv_sub (l' := [(0, .ref b), (1, .ref (L.2.1 0 0)), (2, .ref (L.2.1 20 0)), (3, .ref (L.2.1 50 0)), (4, .int x4)]) hl [2, 3, 4, 5, 6] rfl) (by omega) (by omega)
        · have h := mm_pos hc h
          refine lv_aload_n hx hb d_Lw_law_861 rfl (lv_at hl 5 rfl) ?_
          refine lv_iconst (v := 0) hx hb d_Lw_law_862 (by decide) ?_
          refine mm_lald hX hP d_Lw_law_863 ?_
          refine lv_iload hx hb d_Lw_law_864 (lv_at hl 0 rfl) ?_
          refine lv_i2l hx hb d_Lw_law_866 rfl ?_
          refine W.lcmp hx hb d_Lw_law_867 ?_
          refine lv_if_eq (tgt := 873) hx hb d_Lw_law_868 rfl (fun hc => ?_) (fun hc => ?_)
          · have h := mm_pos hc h
            refine lv_goto (tgt := 1316) hx hb d_Lw_law_873 rfl ?_
            cases h
            exact kk _ _ _ _ _ hP hF hsc (lv_sub (l' := [(0, .ref b), (1, .ref (L.2.1 0 0)), (2, .ref (L.2.1 20 0)), (3, .ref (L.2.1 50 0)), (4, .int x4)]) hl [2, 3, 4, 5, 6] rfl) (by omega) (by omega)
          · have h := mm_neg hc h
            refine lv_iconst (v := 0) hx hb d_Lw_law_871 (by decide) ?_
            cases h
      · have h := mm_neg hc h
        refine lv_iconst (v := 0) hx hb d_Lw_law_854 (by decide) ?_
        cases h
    · cases h
  · cases h
def f_Lw_case876 (n : Nat) (xs : Nat → Int32) (Ln : Nat) (g : mm_M) (x4 : Int32) : Option mm_M :=
  mm_ix (x4 + 1) Ln (mm_ix (x4 + 2) Ln (mm_ix (x4 + 3) Ln (mm_ob (f_Lw_of1 n g 0 (xs (x4 + 1).toNatClampNeg) (xs (x4 + 2).toNatClampNeg) (xs (x4 + 3).toNatClampNeg) 0) (fun z1 g2 => mm_ix (x4 + 1) Ln (mm_ix (x4 + 2) Ln (mm_ix (x4 + 3) Ln (mm_tc (f_Mo_of1 n g2 0 (xs (x4 + 1).toNatClampNeg) (xs (x4 + 2).toNatClampNeg) (xs (x4 + 3).toNatClampNeg)) (fun z4 g5 => mm_tc (f_Mo_thrown n g5 0) (fun z7 g8 => (if z7 = z1 then (if z1 = 0 then (if (lg_cmp (Int32.toInt64 (g8 50 0 0)) (Int32.toInt64 z4)) = 0 then some g8 else none) else some g8) else none)) (fun _ _ => none)) (fun _ _ => none))))))))
set_option maxRecDepth 100000 in
set_option maxHeartbeats 4000000 in
theorem w_Lw_case876 {p : Program} {l : Launch} {e : Env} {R : Room} {s : State} {m : MethodId} {args : Array Value} {below : List Frame} {meth : Method} {c : Code} {L : mm_L} {hh : List (Nat × Nat × Nat × Nat)} {Q : State → Prop} {b Ln : Nat} {xs : Nat → Int32} {scr : Cell} {g g' : mm_M} {x4 : Int32} {H : Heap} {locs : List Loc} {ls : Array Slot} {cells slots : Nat} (hX : mm_Xh hh L code 7 "LoanArrowsLaw" (some .boolean) 11 392 p l R s m meth c) (hb0 : ¬ mm_F L b) (hss : mm_scr s scr Ln xs) (h : f_Lw_case876 L.1 xs Ln g x4 = some g') (hP : mm_P L g H) (hF : ∀ q ∈ locs, mm_F L q.base) (hsc : H[b]? = some scr) (hl : lv_has ls 7 [(0, .ref b), (1, .ref (L.2.1 0 0)), (2, .ref (L.2.1 20 0)), (3, .ref (L.2.1 50 0)), (4, .int x4)]) (hcA : cells + 2 ≤ R.cells) (hsA : slots + 12 ≤ R.slots)
    (kk : ∀ (H1 : Heap) (locs1 : List Loc) (ls1 : Array Slot) (cells1 slots1 : Nat), mm_P L g' H1 → (∀ q ∈ locs1, mm_F L q.base) → H1[b]? = some scr → lv_has ls1 7 [(0, .ref b), (1, .ref (L.2.1 0 0)), (2, .ref (L.2.1 20 0)), (3, .ref (L.2.1 50 0)), (4, .int x4)] → cells1 ≤ cells + 1 → slots1 ≤ slots + 6 → W p l e R s m args below meth c H1 locs1 cells1 slots1 Q (F0 m 1316 ls1 [])) : W p l e R s m args below meth c H locs cells slots Q (F0 m 876 ls []) := by
  have hX0 := hX
  obtain ⟨hx, hb, hml, hown, hr, hlk, hex, hRf, hRl, hRc, hRs, hJ, hK, hst, h00⟩ := hX0
  unfold f_Lw_case876 at h
  refine lv_aload_n hx hb d_Lw_law_876 rfl (lv_at hl 1 rfl) ?_
  refine lv_aload_n hx hb d_Lw_law_877 rfl (lv_at hl 0 rfl) ?_
  refine lv_iload hx hb d_Lw_law_878 (lv_at hl 4 rfl) ?_
  refine lv_iconst (v := 1) hx hb d_Lw_law_880 (by decide) ?_
  refine lv_iadd hx hb d_Lw_law_881 ?_
  obtain ⟨hin, h⟩ := mm_ix_some h
  refine mm_sld hX hsc hss hin d_Lw_law_882 ?_
  refine lv_aload_n hx hb d_Lw_law_883 rfl (lv_at hl 0 rfl) ?_
  refine lv_iload hx hb d_Lw_law_884 (lv_at hl 4 rfl) ?_
  refine lv_iconst (v := 2) hx hb d_Lw_law_886 (by decide) ?_
  refine lv_iadd hx hb d_Lw_law_887 ?_
  obtain ⟨hin, h⟩ := mm_ix_some h
  refine mm_sld hX hsc hss hin d_Lw_law_888 ?_
  refine lv_aload_n hx hb d_Lw_law_889 rfl (lv_at hl 0 rfl) ?_
  refine lv_iload hx hb d_Lw_law_890 (lv_at hl 4 rfl) ?_
  refine lv_iconst (v := 3) hx hb d_Lw_law_892 (by decide) ?_
  refine lv_iadd hx hb d_Lw_law_893 ?_
  obtain ⟨hin, h⟩ := mm_ix_some h
  refine mm_sld hX hsc hss hin d_Lw_law_894 ?_
  refine lv_aload_n hx hb d_Lw_law_895 rfl (lv_at hl 3 rfl) ?_
  obtain ⟨⟨z1, g2⟩, hf3, h⟩ := mm_ob_some h
  refine mm_goS1 (As := [.ref (L.2.1 0 0), .int (xs (x4 + 1).toNatClampNeg), .int (xs (x4 + 2).toNatClampNeg), .int (xs (x4 + 3).toNatClampNeg), .ref (L.2.1 50 0)]) (rest := []) hX (c_Lw_of1 mm_ls0 mm_ls50 hf3) wt_548 (by decide +kernel) ⟨by decide +kernel, by decide +kernel⟩ (by show (parseMethodDescriptor (y_Lw_of1).desc).map (fun d => d.parameters.length) = some 5; decide +kernel) wt_546 wt_547 wt_0 hP hF rfl hl.1 (Nat.le_of_ble_eq_true rfl) (by decide) (by decide) (by omega) (by omega) d_Lw_law_896 (fun H locs hP hF hO => ?_)
  have hsc := hO b scr hb0 hsc
  refine lv_istore hx hb d_Lw_law_899 hl (Nat.lt_of_lt_of_le (Nat.lt_succ_self _) (Nat.le_of_ble_eq_true rfl)) rfl (fun ls hl => ?_)
  have hl : lv_has ls 7 [(5, .int z1), (0, .ref b), (1, .ref (L.2.1 0 0)), (2, .ref (L.2.1 20 0)), (3, .ref (L.2.1 50 0)), (4, .int x4)] := hl
  refine lv_aload_n hx hb d_Lw_law_901 rfl (lv_at hl 3 rfl) ?_
  refine lv_aload_n hx hb d_Lw_law_902 rfl (lv_at hl 1 rfl) ?_
  refine lv_iload hx hb d_Lw_law_903 (lv_at hl 5 rfl) ?_
  refine lv_iconst (v := 1) hx hb d_Lw_law_905 (by decide) ?_
  refine lv_iadd hx hb d_Lw_law_906 ?_
  obtain ⟨hin, h⟩ := mm_ix_some h
  refine mm_sld hX hsc hss hin d_Lw_law_907 ?_
  refine lv_aload_n hx hb d_Lw_law_908 rfl (lv_at hl 1 rfl) ?_
  refine lv_iload hx hb d_Lw_law_909 (lv_at hl 5 rfl) ?_
  refine lv_iconst (v := 2) hx hb d_Lw_law_911 (by decide) ?_
  refine lv_iadd hx hb d_Lw_law_912 ?_
  obtain ⟨hin, h⟩ := mm_ix_some h
  refine mm_sld hX hsc hss hin d_Lw_law_913 ?_
  refine lv_aload_n hx hb d_Lw_law_914 rfl (lv_at hl 1 rfl) ?_
  refine lv_iload hx hb d_Lw_law_915 (lv_at hl 5 rfl) ?_
  refine lv_iconst (v := 3) hx hb d_Lw_law_917 (by decide) ?_
  refine lv_iadd hx hb d_Lw_law_918 ?_
  obtain ⟨hin, h⟩ := mm_ix_some h
  refine mm_sld hX hsc hss hin d_Lw_law_919 ?_
  rcases mm_tc_some h with ⟨z4, g5, hf6, h⟩ | ⟨xe, z4, g5, hf6, h⟩
  · refine mm_goR (v := (some (.int z4))) (mm_goV (As := [.int (xs (x4 + 1).toNatClampNeg), .int (xs (x4 + 2).toNatClampNeg), .int (xs (x4 + 3).toNatClampNeg)]) (rest := []) hX (c_Mo_of1 mm_ls20 hf6) yw_Mo_of1 wt_820 wt_821 wt_822 hP hF (mm_recv (h := 20) (i := 0) hX hP mm_ls20 rfl rfl) rfl hl.1 (Nat.le_of_ble_eq_true rfl) (by decide) (by decide) (by omega) (by omega) d_Lw_law_920) hF (fun H locs hP hF hO => ?_)
    have hsc := hO b scr hb0 hsc
    refine lv_istore hx hb d_Lw_law_923 hl (Nat.lt_of_lt_of_le (Nat.lt_succ_self _) (Nat.le_of_ble_eq_true rfl)) rfl (fun ls hl => ?_)
    have hl : lv_has ls 7 [(6, .int z4), (5, .int z1), (0, .ref b), (1, .ref (L.2.1 0 0)), (2, .ref (L.2.1 20 0)), (3, .ref (L.2.1 50 0)), (4, .int x4)] := hl
    refine lv_aload_n hx hb d_Lw_law_925 rfl (lv_at hl 4 rfl) ?_
    rcases mm_tc_some h with ⟨z7, g8, hf9, h⟩ | ⟨xe, z7, g8, hf9, h⟩
    · refine mm_goR (v := (some (.int z7))) (mm_goV (As := []) (rest := []) hX (c_Mo_thrown mm_ls20 hf9) yw_Mo_thrown wt_694 wt_695 wt_696 hP hF (mm_recv (h := 20) (i := 0) hX hP mm_ls20 rfl rfl) rfl hl.1 (Nat.le_of_ble_eq_true rfl) (by decide) (by decide) (by omega) (by omega) d_Lw_law_926) hF (fun H locs hP hF hO => ?_)
      have hsc := hO b scr hb0 hsc
      refine lv_iload hx hb d_Lw_law_929 (lv_at hl 1 rfl) ?_
      refine lv_icmp_eq (tgt := 936) hx hb d_Lw_law_931 rfl (fun hc => ?_) (fun hc => ?_)
      · have h := mm_pos hc h
        refine lv_iload hx hb d_Lw_law_936 (lv_at hl 1 rfl) ?_
        refine lv_if_ne (tgt := 953) hx hb d_Lw_law_938 rfl (fun hc => ?_) (fun hc => ?_)
        · have h := mm_neg hc h
          refine lv_goto (tgt := 1316) hx hb d_Lw_law_953 rfl ?_
          cases h
          exact kk _ _ _ _ _ hP hF hsc (lv_sub (l' := [(0, .ref b), (1, .ref (L.2.1 0 0)), (2, .ref (L.2.1 20 0)), (3, .ref (L.2.1 50 0)), (4, .int x4)]) hl [2, 3, 4, 5, 6] rfl) (by omega) (by omega)
        · have h := mm_pos hc h
          refine lv_aload_n hx hb d_Lw_law_941 rfl (lv_at hl 5 rfl) ?_
          refine lv_iconst (v := 0) hx hb d_Lw_law_942 (by decide) ?_
          refine mm_lald hX hP d_Lw_law_943 ?_
          refine lv_iload hx hb d_Lw_law_944 (lv_at hl 0 rfl) ?_
          refine lv_i2l hx hb d_Lw_law_946 rfl ?_
          refine W.lcmp hx hb d_Lw_law_947 ?_
          refine lv_if_eq (tgt := 953) hx hb d_Lw_law_948 rfl (fun hc => ?_) (fun hc => ?_)
          · have h := mm_pos hc h
            refine lv_goto (tgt := 1316) hx hb d_Lw_law_953 rfl ?_
            cases h
            exact kk _ _ _ _ _ hP hF hsc (lv_sub (l' := [(0, .ref b), (1, .ref (L.2.1 0 0)), (2, .ref (L.2.1 20 0)), (3, .ref (L.2.1 50 0)), (4, .int x4)]) hl [2, 3, 4, 5, 6] rfl) (by omega) (by omega)
          · have h := mm_neg hc h
            refine lv_iconst (v := 0) hx hb d_Lw_law_951 (by decide) ?_
            cases h
      · have h := mm_neg hc h
        refine lv_iconst (v := 0) hx hb d_Lw_law_934 (by decide) ?_
        cases h
    · cases h
  · cases h
def f_Lw_case956 (n : Nat) (xs : Nat → Int32) (Ln : Nat) (g : mm_M) (x4 : Int32) : Option mm_M :=
  mm_ix (x4 + 1) Ln (mm_ix (x4 + 2) Ln (mm_ix (x4 + 3) Ln (mm_ob (f_Lw_reader n g 0 (xs (x4 + 1).toNatClampNeg) (xs (x4 + 2).toNatClampNeg) (xs (x4 + 3).toNatClampNeg) 0) (fun z1 g2 => mm_ix (x4 + 1) Ln (mm_ix (x4 + 2) Ln (mm_ix (x4 + 3) Ln (mm_tc (f_Mo_reader n g2 0 (xs (x4 + 1).toNatClampNeg) (xs (x4 + 2).toNatClampNeg) (xs (x4 + 3).toNatClampNeg)) (fun z4 g5 => mm_tc (f_Mo_thrown n g5 0) (fun z7 g8 => (if z7 = z1 then (if z1 = 0 then (if (lg_cmp (Int32.toInt64 (g8 50 0 0)) (Int32.toInt64 z4)) = 0 then some g8 else none) else some g8) else none)) (fun _ _ => none)) (fun _ _ => none))))))))
set_option maxRecDepth 100000 in
set_option maxHeartbeats 4000000 in
theorem w_Lw_case956 {p : Program} {l : Launch} {e : Env} {R : Room} {s : State} {m : MethodId} {args : Array Value} {below : List Frame} {meth : Method} {c : Code} {L : mm_L} {hh : List (Nat × Nat × Nat × Nat)} {Q : State → Prop} {b Ln : Nat} {xs : Nat → Int32} {scr : Cell} {g g' : mm_M} {x4 : Int32} {H : Heap} {locs : List Loc} {ls : Array Slot} {cells slots : Nat} (hX : mm_Xh hh L code 7 "LoanArrowsLaw" (some .boolean) 11 392 p l R s m meth c) (hb0 : ¬ mm_F L b) (hss : mm_scr s scr Ln xs) (h : f_Lw_case956 L.1 xs Ln g x4 = some g') (hP : mm_P L g H) (hF : ∀ q ∈ locs, mm_F L q.base) (hsc : H[b]? = some scr) (hl : lv_has ls 7 [(0, .ref b), (1, .ref (L.2.1 0 0)), (2, .ref (L.2.1 20 0)), (3, .ref (L.2.1 50 0)), (4, .int x4)]) (hcA : cells + 2 ≤ R.cells) (hsA : slots + 12 ≤ R.slots)
    (kk : ∀ (H1 : Heap) (locs1 : List Loc) (ls1 : Array Slot) (cells1 slots1 : Nat), mm_P L g' H1 → (∀ q ∈ locs1, mm_F L q.base) → H1[b]? = some scr → lv_has ls1 7 [(0, .ref b), (1, .ref (L.2.1 0 0)), (2, .ref (L.2.1 20 0)), (3, .ref (L.2.1 50 0)), (4, .int x4)] → cells1 ≤ cells + 1 → slots1 ≤ slots + 6 → W p l e R s m args below meth c H1 locs1 cells1 slots1 Q (F0 m 1316 ls1 [])) : W p l e R s m args below meth c H locs cells slots Q (F0 m 956 ls []) := by
  have hX0 := hX
  obtain ⟨hx, hb, hml, hown, hr, hlk, hex, hRf, hRl, hRc, hRs, hJ, hK, hst, h00⟩ := hX0
  unfold f_Lw_case956 at h
  refine lv_aload_n hx hb d_Lw_law_956 rfl (lv_at hl 1 rfl) ?_
  refine lv_aload_n hx hb d_Lw_law_957 rfl (lv_at hl 0 rfl) ?_
  refine lv_iload hx hb d_Lw_law_958 (lv_at hl 4 rfl) ?_
  refine lv_iconst (v := 1) hx hb d_Lw_law_960 (by decide) ?_
  refine lv_iadd hx hb d_Lw_law_961 ?_
  obtain ⟨hin, h⟩ := mm_ix_some h
  refine mm_sld hX hsc hss hin d_Lw_law_962 ?_
  refine lv_aload_n hx hb d_Lw_law_963 rfl (lv_at hl 0 rfl) ?_
  refine lv_iload hx hb d_Lw_law_964 (lv_at hl 4 rfl) ?_
  refine lv_iconst (v := 2) hx hb d_Lw_law_966 (by decide) ?_
  refine lv_iadd hx hb d_Lw_law_967 ?_
  obtain ⟨hin, h⟩ := mm_ix_some h
  refine mm_sld hX hsc hss hin d_Lw_law_968 ?_
  refine lv_aload_n hx hb d_Lw_law_969 rfl (lv_at hl 0 rfl) ?_
  refine lv_iload hx hb d_Lw_law_970 (lv_at hl 4 rfl) ?_
  refine lv_iconst (v := 3) hx hb d_Lw_law_972 (by decide) ?_
  refine lv_iadd hx hb d_Lw_law_973 ?_
  obtain ⟨hin, h⟩ := mm_ix_some h
  refine mm_sld hX hsc hss hin d_Lw_law_974 ?_
  refine lv_aload_n hx hb d_Lw_law_975 rfl (lv_at hl 3 rfl) ?_
  obtain ⟨⟨z1, g2⟩, hf3, h⟩ := mm_ob_some h
  refine mm_goS1 (As := [.ref (L.2.1 0 0), .int (xs (x4 + 1).toNatClampNeg), .int (xs (x4 + 2).toNatClampNeg), .int (xs (x4 + 3).toNatClampNeg), .ref (L.2.1 50 0)]) (rest := []) hX (c_Lw_reader mm_ls0 mm_ls50 hf3) wt_556 (by decide +kernel) ⟨by decide +kernel, by decide +kernel⟩ (by show (parseMethodDescriptor (y_Lw_reader).desc).map (fun d => d.parameters.length) = some 5; decide +kernel) wt_554 wt_555 wt_0 hP hF rfl hl.1 (Nat.le_of_ble_eq_true rfl) (by decide) (by decide) (by omega) (by omega) d_Lw_law_976 (fun H locs hP hF hO => ?_)
  have hsc := hO b scr hb0 hsc
  refine lv_istore hx hb d_Lw_law_979 hl (Nat.lt_of_lt_of_le (Nat.lt_succ_self _) (Nat.le_of_ble_eq_true rfl)) rfl (fun ls hl => ?_)
  have hl : lv_has ls 7 [(5, .int z1), (0, .ref b), (1, .ref (L.2.1 0 0)), (2, .ref (L.2.1 20 0)), (3, .ref (L.2.1 50 0)), (4, .int x4)] := hl
  refine lv_aload_n hx hb d_Lw_law_981 rfl (lv_at hl 3 rfl) ?_
  refine lv_aload_n hx hb d_Lw_law_982 rfl (lv_at hl 1 rfl) ?_
  refine lv_iload hx hb d_Lw_law_983 (lv_at hl 5 rfl) ?_
  refine lv_iconst (v := 1) hx hb d_Lw_law_985 (by decide) ?_
  refine lv_iadd hx hb d_Lw_law_986 ?_
  obtain ⟨hin, h⟩ := mm_ix_some h
  refine mm_sld hX hsc hss hin d_Lw_law_987 ?_
  refine lv_aload_n hx hb d_Lw_law_988 rfl (lv_at hl 1 rfl) ?_
  refine lv_iload hx hb d_Lw_law_989 (lv_at hl 5 rfl) ?_
  refine lv_iconst (v := 2) hx hb d_Lw_law_991 (by decide) ?_
  refine lv_iadd hx hb d_Lw_law_992 ?_
  obtain ⟨hin, h⟩ := mm_ix_some h
  refine mm_sld hX hsc hss hin d_Lw_law_993 ?_
  refine lv_aload_n hx hb d_Lw_law_994 rfl (lv_at hl 1 rfl) ?_
  refine lv_iload hx hb d_Lw_law_995 (lv_at hl 5 rfl) ?_
  refine lv_iconst (v := 3) hx hb d_Lw_law_997 (by decide) ?_
  refine lv_iadd hx hb d_Lw_law_998 ?_
  obtain ⟨hin, h⟩ := mm_ix_some h
  refine mm_sld hX hsc hss hin d_Lw_law_999 ?_
  rcases mm_tc_some h with ⟨z4, g5, hf6, h⟩ | ⟨xe, z4, g5, hf6, h⟩
  · refine mm_goR (v := (some (.int z4))) (mm_goV (As := [.int (xs (x4 + 1).toNatClampNeg), .int (xs (x4 + 2).toNatClampNeg), .int (xs (x4 + 3).toNatClampNeg)]) (rest := []) hX (c_Mo_reader mm_ls20 hf6) yw_Mo_reader wt_824 wt_825 wt_826 hP hF (mm_recv (h := 20) (i := 0) hX hP mm_ls20 rfl rfl) rfl hl.1 (Nat.le_of_ble_eq_true rfl) (by decide) (by decide) (by omega) (by omega) d_Lw_law_1000) hF (fun H locs hP hF hO => ?_)
    have hsc := hO b scr hb0 hsc
    refine lv_istore hx hb d_Lw_law_1003 hl (Nat.lt_of_lt_of_le (Nat.lt_succ_self _) (Nat.le_of_ble_eq_true rfl)) rfl (fun ls hl => ?_)
    have hl : lv_has ls 7 [(6, .int z4), (5, .int z1), (0, .ref b), (1, .ref (L.2.1 0 0)), (2, .ref (L.2.1 20 0)), (3, .ref (L.2.1 50 0)), (4, .int x4)] := hl
    refine lv_aload_n hx hb d_Lw_law_1005 rfl (lv_at hl 4 rfl) ?_
    rcases mm_tc_some h with ⟨z7, g8, hf9, h⟩ | ⟨xe, z7, g8, hf9, h⟩
    · refine mm_goR (v := (some (.int z7))) (mm_goV (As := []) (rest := []) hX (c_Mo_thrown mm_ls20 hf9) yw_Mo_thrown wt_694 wt_695 wt_696 hP hF (mm_recv (h := 20) (i := 0) hX hP mm_ls20 rfl rfl) rfl hl.1 (Nat.le_of_ble_eq_true rfl) (by decide) (by decide) (by omega) (by omega) d_Lw_law_1006) hF (fun H locs hP hF hO => ?_)
      have hsc := hO b scr hb0 hsc
      refine lv_iload hx hb d_Lw_law_1009 (lv_at hl 1 rfl) ?_
      refine lv_icmp_eq (tgt := 1016) hx hb d_Lw_law_1011 rfl (fun hc => ?_) (fun hc => ?_)
      · have h := mm_pos hc h
        refine lv_iload hx hb d_Lw_law_1016 (lv_at hl 1 rfl) ?_
        refine lv_if_ne (tgt := 1033) hx hb d_Lw_law_1018 rfl (fun hc => ?_) (fun hc => ?_)
        · have h := mm_neg hc h
          refine lv_goto (tgt := 1316) hx hb d_Lw_law_1033 rfl ?_
          cases h
          exact kk _ _ _ _ _ hP hF hsc (lv_sub (l' := [(0, .ref b), (1, .ref (L.2.1 0 0)), (2, .ref (L.2.1 20 0)), (3, .ref (L.2.1 50 0)), (4, .int x4)]) hl [2, 3, 4, 5, 6] rfl) (by omega) (by omega)
        · have h := mm_pos hc h
          refine lv_aload_n hx hb d_Lw_law_1021 rfl (lv_at hl 5 rfl) ?_
          refine lv_iconst (v := 0) hx hb d_Lw_law_1022 (by decide) ?_
          refine mm_lald hX hP d_Lw_law_1023 ?_
          refine lv_iload hx hb d_Lw_law_1024 (lv_at hl 0 rfl) ?_
          refine lv_i2l hx hb d_Lw_law_1026 rfl ?_
          refine W.lcmp hx hb d_Lw_law_1027 ?_
          refine lv_if_eq (tgt := 1033) hx hb d_Lw_law_1028 rfl (fun hc => ?_) (fun hc => ?_)
          · have h := mm_pos hc h
            refine lv_goto (tgt := 1316) hx hb d_Lw_law_1033 rfl ?_
            cases h
            exact kk _ _ _ _ _ hP hF hsc (lv_sub (l' := [(0, .ref b), (1, .ref (L.2.1 0 0)), (2, .ref (L.2.1 20 0)), (3, .ref (L.2.1 50 0)), (4, .int x4)]) hl [2, 3, 4, 5, 6] rfl) (by omega) (by omega)
          · have h := mm_neg hc h
            refine lv_iconst (v := 0) hx hb d_Lw_law_1031 (by decide) ?_
            cases h
      · have h := mm_neg hc h
        refine lv_iconst (v := 0) hx hb d_Lw_law_1014 (by decide) ?_
        cases h
    · cases h
  · cases h
def f_Lw_case1036 (n : Nat) (xs : Nat → Int32) (Ln : Nat) (g : mm_M) (x4 : Int32) : Option mm_M :=
  mm_ix (x4 + 1) Ln (mm_ob (f_Lw_place n g 0 (xs (x4 + 1).toNatClampNeg) 0) (fun z1 g2 => mm_ix (x4 + 1) Ln (mm_tc (f_Mo_place n g2 0 (xs (x4 + 1).toNatClampNeg)) (fun z4 g5 => mm_tc (f_Mo_thrown n g5 0) (fun z7 g8 => (if z7 = z1 then (if z1 = 0 then (if (lg_cmp (Int32.toInt64 (g8 50 0 0)) (Int32.toInt64 z4)) = 0 then some g8 else none) else some g8) else none)) (fun _ _ => none)) (fun _ _ => none))))
set_option maxRecDepth 100000 in
set_option maxHeartbeats 4000000 in
theorem w_Lw_case1036 {p : Program} {l : Launch} {e : Env} {R : Room} {s : State} {m : MethodId} {args : Array Value} {below : List Frame} {meth : Method} {c : Code} {L : mm_L} {hh : List (Nat × Nat × Nat × Nat)} {Q : State → Prop} {b Ln : Nat} {xs : Nat → Int32} {scr : Cell} {g g' : mm_M} {x4 : Int32} {H : Heap} {locs : List Loc} {ls : Array Slot} {cells slots : Nat} (hX : mm_Xh hh L code 7 "LoanArrowsLaw" (some .boolean) 11 392 p l R s m meth c) (hb0 : ¬ mm_F L b) (hss : mm_scr s scr Ln xs) (h : f_Lw_case1036 L.1 xs Ln g x4 = some g') (hP : mm_P L g H) (hF : ∀ q ∈ locs, mm_F L q.base) (hsc : H[b]? = some scr) (hl : lv_has ls 7 [(0, .ref b), (1, .ref (L.2.1 0 0)), (2, .ref (L.2.1 20 0)), (3, .ref (L.2.1 50 0)), (4, .int x4)]) (hcA : cells + 2 ≤ R.cells) (hsA : slots + 12 ≤ R.slots)
    (kk : ∀ (H1 : Heap) (locs1 : List Loc) (ls1 : Array Slot) (cells1 slots1 : Nat), mm_P L g' H1 → (∀ q ∈ locs1, mm_F L q.base) → H1[b]? = some scr → lv_has ls1 7 [(0, .ref b), (1, .ref (L.2.1 0 0)), (2, .ref (L.2.1 20 0)), (3, .ref (L.2.1 50 0)), (4, .int x4)] → cells1 ≤ cells + 1 → slots1 ≤ slots + 6 → W p l e R s m args below meth c H1 locs1 cells1 slots1 Q (F0 m 1316 ls1 [])) : W p l e R s m args below meth c H locs cells slots Q (F0 m 1036 ls []) := by
  have hX0 := hX
  obtain ⟨hx, hb, hml, hown, hr, hlk, hex, hRf, hRl, hRc, hRs, hJ, hK, hst, h00⟩ := hX0
  unfold f_Lw_case1036 at h
  refine lv_aload_n hx hb d_Lw_law_1036 rfl (lv_at hl 1 rfl) ?_
  refine lv_aload_n hx hb d_Lw_law_1037 rfl (lv_at hl 0 rfl) ?_
  refine lv_iload hx hb d_Lw_law_1038 (lv_at hl 4 rfl) ?_
  refine lv_iconst (v := 1) hx hb d_Lw_law_1040 (by decide) ?_
  refine lv_iadd hx hb d_Lw_law_1041 ?_
  obtain ⟨hin, h⟩ := mm_ix_some h
  refine mm_sld hX hsc hss hin d_Lw_law_1042 ?_
  refine lv_aload_n hx hb d_Lw_law_1043 rfl (lv_at hl 3 rfl) ?_
  obtain ⟨⟨z1, g2⟩, hf3, h⟩ := mm_ob_some h
  refine mm_goS1 (As := [.ref (L.2.1 0 0), .int (xs (x4 + 1).toNatClampNeg), .ref (L.2.1 50 0)]) (rest := []) hX (c_Lw_place mm_ls0 mm_ls50 hf3) wt_564 (by decide +kernel) ⟨by decide +kernel, by decide +kernel⟩ (by show (parseMethodDescriptor (y_Lw_place).desc).map (fun d => d.parameters.length) = some 3; decide +kernel) wt_562 wt_563 wt_0 hP hF rfl hl.1 (Nat.le_of_ble_eq_true rfl) (by decide) (by decide) (by omega) (by omega) d_Lw_law_1044 (fun H locs hP hF hO => ?_)
  have hsc := hO b scr hb0 hsc
  refine lv_istore hx hb d_Lw_law_1047 hl (Nat.lt_of_lt_of_le (Nat.lt_succ_self _) (Nat.le_of_ble_eq_true rfl)) rfl (fun ls hl => ?_)
  have hl : lv_has ls 7 [(5, .int z1), (0, .ref b), (1, .ref (L.2.1 0 0)), (2, .ref (L.2.1 20 0)), (3, .ref (L.2.1 50 0)), (4, .int x4)] := hl
  refine lv_aload_n hx hb d_Lw_law_1049 rfl (lv_at hl 3 rfl) ?_
  refine lv_aload_n hx hb d_Lw_law_1050 rfl (lv_at hl 1 rfl) ?_
  refine lv_iload hx hb d_Lw_law_1051 (lv_at hl 5 rfl) ?_
  refine lv_iconst (v := 1) hx hb d_Lw_law_1053 (by decide) ?_
  refine lv_iadd hx hb d_Lw_law_1054 ?_
  obtain ⟨hin, h⟩ := mm_ix_some h
  refine mm_sld hX hsc hss hin d_Lw_law_1055 ?_
  rcases mm_tc_some h with ⟨z4, g5, hf6, h⟩ | ⟨xe, z4, g5, hf6, h⟩
  · refine mm_goR (v := (some (.int z4))) (mm_goV (As := [.int (xs (x4 + 1).toNatClampNeg)]) (rest := []) hX (c_Mo_place mm_ls20 hf6) yw_Mo_place wt_828 wt_829 wt_830 hP hF (mm_recv (h := 20) (i := 0) hX hP mm_ls20 rfl rfl) rfl hl.1 (Nat.le_of_ble_eq_true rfl) (by decide) (by decide) (by omega) (by omega) d_Lw_law_1056) hF (fun H locs hP hF hO => ?_)
    have hsc := hO b scr hb0 hsc
    refine lv_istore hx hb d_Lw_law_1059 hl (Nat.lt_of_lt_of_le (Nat.lt_succ_self _) (Nat.le_of_ble_eq_true rfl)) rfl (fun ls hl => ?_)
    have hl : lv_has ls 7 [(6, .int z4), (5, .int z1), (0, .ref b), (1, .ref (L.2.1 0 0)), (2, .ref (L.2.1 20 0)), (3, .ref (L.2.1 50 0)), (4, .int x4)] := hl
    refine lv_aload_n hx hb d_Lw_law_1061 rfl (lv_at hl 4 rfl) ?_
    rcases mm_tc_some h with ⟨z7, g8, hf9, h⟩ | ⟨xe, z7, g8, hf9, h⟩
    · refine mm_goR (v := (some (.int z7))) (mm_goV (As := []) (rest := []) hX (c_Mo_thrown mm_ls20 hf9) yw_Mo_thrown wt_694 wt_695 wt_696 hP hF (mm_recv (h := 20) (i := 0) hX hP mm_ls20 rfl rfl) rfl hl.1 (Nat.le_of_ble_eq_true rfl) (by decide) (by decide) (by omega) (by omega) d_Lw_law_1062) hF (fun H locs hP hF hO => ?_)
      have hsc := hO b scr hb0 hsc
      refine lv_iload hx hb d_Lw_law_1065 (lv_at hl 1 rfl) ?_
      refine lv_icmp_eq (tgt := 1072) hx hb d_Lw_law_1067 rfl (fun hc => ?_) (fun hc => ?_)
      · have h := mm_pos hc h
        refine lv_iload hx hb d_Lw_law_1072 (lv_at hl 1 rfl) ?_
        refine lv_if_ne (tgt := 1089) hx hb d_Lw_law_1074 rfl (fun hc => ?_) (fun hc => ?_)
        · have h := mm_neg hc h
          refine lv_goto (tgt := 1316) hx hb d_Lw_law_1089 rfl ?_
          cases h
          exact kk _ _ _ _ _ hP hF hsc (lv_sub (l' := [(0, .ref b), (1, .ref (L.2.1 0 0)), (2, .ref (L.2.1 20 0)), (3, .ref (L.2.1 50 0)), (4, .int x4)]) hl [2, 3, 4, 5, 6] rfl) (by omega) (by omega)
        · have h := mm_pos hc h
          refine lv_aload_n hx hb d_Lw_law_1077 rfl (lv_at hl 5 rfl) ?_
          refine lv_iconst (v := 0) hx hb d_Lw_law_1078 (by decide) ?_
          refine mm_lald hX hP d_Lw_law_1079 ?_
          refine lv_iload hx hb d_Lw_law_1080 (lv_at hl 0 rfl) ?_
          refine lv_i2l hx hb d_Lw_law_1082 rfl ?_
          refine W.lcmp hx hb d_Lw_law_1083 ?_
          refine lv_if_eq (tgt := 1089) hx hb d_Lw_law_1084 rfl (fun hc => ?_) (fun hc => ?_)
          · have h := mm_pos hc h
            refine lv_goto (tgt := 1316) hx hb d_Lw_law_1089 rfl ?_
            cases h
            exact kk _ _ _ _ _ hP hF hsc (lv_sub (l' := [(0, .ref b), (1, .ref (L.2.1 0 0)), (2, .ref (L.2.1 20 0)), (3, .ref (L.2.1 50 0)), (4, .int x4)]) hl [2, 3, 4, 5, 6] rfl) (by omega) (by omega)
          · have h := mm_neg hc h
            refine lv_iconst (v := 0) hx hb d_Lw_law_1087 (by decide) ?_
            cases h
      · have h := mm_neg hc h
        refine lv_iconst (v := 0) hx hb d_Lw_law_1070 (by decide) ?_
        cases h
    · cases h
  · cases h
def f_Lw_case1092 (n : Nat) (xs : Nat → Int32) (Ln : Nat) (g : mm_M) (x4 : Int32) : Option mm_M :=
  mm_ix (x4 + 1) Ln (mm_ix (x4 + 2) Ln (mm_ob (f_Lw_chain n g 0 (xs (x4 + 1).toNatClampNeg) (xs (x4 + 2).toNatClampNeg) 0) (fun z1 g2 => mm_ix (x4 + 1) Ln (mm_ix (x4 + 2) Ln (mm_tc (f_Mo_chain n g2 0 (xs (x4 + 1).toNatClampNeg) (xs (x4 + 2).toNatClampNeg)) (fun z4 g5 => mm_tc (f_Mo_thrown n g5 0) (fun z7 g8 => (if z7 = z1 then (if z1 = 0 then (if (lg_cmp (Int32.toInt64 (g8 50 0 0)) (Int32.toInt64 z4)) = 0 then some g8 else none) else some g8) else none)) (fun _ _ => none)) (fun _ _ => none))))))
set_option maxRecDepth 100000 in
set_option maxHeartbeats 4000000 in
theorem w_Lw_case1092 {p : Program} {l : Launch} {e : Env} {R : Room} {s : State} {m : MethodId} {args : Array Value} {below : List Frame} {meth : Method} {c : Code} {L : mm_L} {hh : List (Nat × Nat × Nat × Nat)} {Q : State → Prop} {b Ln : Nat} {xs : Nat → Int32} {scr : Cell} {g g' : mm_M} {x4 : Int32} {H : Heap} {locs : List Loc} {ls : Array Slot} {cells slots : Nat} (hX : mm_Xh hh L code 7 "LoanArrowsLaw" (some .boolean) 11 392 p l R s m meth c) (hb0 : ¬ mm_F L b) (hss : mm_scr s scr Ln xs) (h : f_Lw_case1092 L.1 xs Ln g x4 = some g') (hP : mm_P L g H) (hF : ∀ q ∈ locs, mm_F L q.base) (hsc : H[b]? = some scr) (hl : lv_has ls 7 [(0, .ref b), (1, .ref (L.2.1 0 0)), (2, .ref (L.2.1 20 0)), (3, .ref (L.2.1 50 0)), (4, .int x4)]) (hcA : cells + 2 ≤ R.cells) (hsA : slots + 12 ≤ R.slots)
    (kk : ∀ (H1 : Heap) (locs1 : List Loc) (ls1 : Array Slot) (cells1 slots1 : Nat), mm_P L g' H1 → (∀ q ∈ locs1, mm_F L q.base) → H1[b]? = some scr → lv_has ls1 7 [(0, .ref b), (1, .ref (L.2.1 0 0)), (2, .ref (L.2.1 20 0)), (3, .ref (L.2.1 50 0)), (4, .int x4)] → cells1 ≤ cells + 1 → slots1 ≤ slots + 6 → W p l e R s m args below meth c H1 locs1 cells1 slots1 Q (F0 m 1316 ls1 [])) : W p l e R s m args below meth c H locs cells slots Q (F0 m 1092 ls []) := by
  have hX0 := hX
  obtain ⟨hx, hb, hml, hown, hr, hlk, hex, hRf, hRl, hRc, hRs, hJ, hK, hst, h00⟩ := hX0
  unfold f_Lw_case1092 at h
  refine lv_aload_n hx hb d_Lw_law_1092 rfl (lv_at hl 1 rfl) ?_
  refine lv_aload_n hx hb d_Lw_law_1093 rfl (lv_at hl 0 rfl) ?_
  refine lv_iload hx hb d_Lw_law_1094 (lv_at hl 4 rfl) ?_
  refine lv_iconst (v := 1) hx hb d_Lw_law_1096 (by decide) ?_
  refine lv_iadd hx hb d_Lw_law_1097 ?_
  obtain ⟨hin, h⟩ := mm_ix_some h
  refine mm_sld hX hsc hss hin d_Lw_law_1098 ?_
  refine lv_aload_n hx hb d_Lw_law_1099 rfl (lv_at hl 0 rfl) ?_
  refine lv_iload hx hb d_Lw_law_1100 (lv_at hl 4 rfl) ?_
  refine lv_iconst (v := 2) hx hb d_Lw_law_1102 (by decide) ?_
  refine lv_iadd hx hb d_Lw_law_1103 ?_
  obtain ⟨hin, h⟩ := mm_ix_some h
  refine mm_sld hX hsc hss hin d_Lw_law_1104 ?_
  refine lv_aload_n hx hb d_Lw_law_1105 rfl (lv_at hl 3 rfl) ?_
  obtain ⟨⟨z1, g2⟩, hf3, h⟩ := mm_ob_some h
  refine mm_goS1 (As := [.ref (L.2.1 0 0), .int (xs (x4 + 1).toNatClampNeg), .int (xs (x4 + 2).toNatClampNeg), .ref (L.2.1 50 0)]) (rest := []) hX (c_Lw_chain mm_ls0 mm_ls50 hf3) wt_571 (by decide +kernel) ⟨by decide +kernel, by decide +kernel⟩ (by show (parseMethodDescriptor (y_Lw_chain).desc).map (fun d => d.parameters.length) = some 4; decide +kernel) wt_569 wt_570 wt_0 hP hF rfl hl.1 (Nat.le_of_ble_eq_true rfl) (by decide) (by decide) (by omega) (by omega) d_Lw_law_1106 (fun H locs hP hF hO => ?_)
  have hsc := hO b scr hb0 hsc
  refine lv_istore hx hb d_Lw_law_1109 hl (Nat.lt_of_lt_of_le (Nat.lt_succ_self _) (Nat.le_of_ble_eq_true rfl)) rfl (fun ls hl => ?_)
  have hl : lv_has ls 7 [(5, .int z1), (0, .ref b), (1, .ref (L.2.1 0 0)), (2, .ref (L.2.1 20 0)), (3, .ref (L.2.1 50 0)), (4, .int x4)] := hl
  refine lv_aload_n hx hb d_Lw_law_1111 rfl (lv_at hl 3 rfl) ?_
  refine lv_aload_n hx hb d_Lw_law_1112 rfl (lv_at hl 1 rfl) ?_
  refine lv_iload hx hb d_Lw_law_1113 (lv_at hl 5 rfl) ?_
  refine lv_iconst (v := 1) hx hb d_Lw_law_1115 (by decide) ?_
  refine lv_iadd hx hb d_Lw_law_1116 ?_
  obtain ⟨hin, h⟩ := mm_ix_some h
  refine mm_sld hX hsc hss hin d_Lw_law_1117 ?_
  refine lv_aload_n hx hb d_Lw_law_1118 rfl (lv_at hl 1 rfl) ?_
  refine lv_iload hx hb d_Lw_law_1119 (lv_at hl 5 rfl) ?_
  refine lv_iconst (v := 2) hx hb d_Lw_law_1121 (by decide) ?_
  refine lv_iadd hx hb d_Lw_law_1122 ?_
  obtain ⟨hin, h⟩ := mm_ix_some h
  refine mm_sld hX hsc hss hin d_Lw_law_1123 ?_
  rcases mm_tc_some h with ⟨z4, g5, hf6, h⟩ | ⟨xe, z4, g5, hf6, h⟩
  · refine mm_goR (v := (some (.int z4))) (mm_goV (As := [.int (xs (x4 + 1).toNatClampNeg), .int (xs (x4 + 2).toNatClampNeg)]) (rest := []) hX (c_Mo_chain mm_ls20 hf6) yw_Mo_chain wt_832 wt_833 wt_834 hP hF (mm_recv (h := 20) (i := 0) hX hP mm_ls20 rfl rfl) rfl hl.1 (Nat.le_of_ble_eq_true rfl) (by decide) (by decide) (by omega) (by omega) d_Lw_law_1124) hF (fun H locs hP hF hO => ?_)
    have hsc := hO b scr hb0 hsc
    refine lv_istore hx hb d_Lw_law_1127 hl (Nat.lt_of_lt_of_le (Nat.lt_succ_self _) (Nat.le_of_ble_eq_true rfl)) rfl (fun ls hl => ?_)
    have hl : lv_has ls 7 [(6, .int z4), (5, .int z1), (0, .ref b), (1, .ref (L.2.1 0 0)), (2, .ref (L.2.1 20 0)), (3, .ref (L.2.1 50 0)), (4, .int x4)] := hl
    refine lv_aload_n hx hb d_Lw_law_1129 rfl (lv_at hl 4 rfl) ?_
    rcases mm_tc_some h with ⟨z7, g8, hf9, h⟩ | ⟨xe, z7, g8, hf9, h⟩
    · refine mm_goR (v := (some (.int z7))) (mm_goV (As := []) (rest := []) hX (c_Mo_thrown mm_ls20 hf9) yw_Mo_thrown wt_694 wt_695 wt_696 hP hF (mm_recv (h := 20) (i := 0) hX hP mm_ls20 rfl rfl) rfl hl.1 (Nat.le_of_ble_eq_true rfl) (by decide) (by decide) (by omega) (by omega) d_Lw_law_1130) hF (fun H locs hP hF hO => ?_)
      have hsc := hO b scr hb0 hsc
      refine lv_iload hx hb d_Lw_law_1133 (lv_at hl 1 rfl) ?_
      refine lv_icmp_eq (tgt := 1140) hx hb d_Lw_law_1135 rfl (fun hc => ?_) (fun hc => ?_)
      · have h := mm_pos hc h
        refine lv_iload hx hb d_Lw_law_1140 (lv_at hl 1 rfl) ?_
        refine lv_if_ne (tgt := 1157) hx hb d_Lw_law_1142 rfl (fun hc => ?_) (fun hc => ?_)
        · have h := mm_neg hc h
          refine lv_goto (tgt := 1316) hx hb d_Lw_law_1157 rfl ?_
          cases h
          exact kk _ _ _ _ _ hP hF hsc (lv_sub (l' := [(0, .ref b), (1, .ref (L.2.1 0 0)), (2, .ref (L.2.1 20 0)), (3, .ref (L.2.1 50 0)), (4, .int x4)]) hl [2, 3, 4, 5, 6] rfl) (by omega) (by omega)
        · have h := mm_pos hc h
          refine lv_aload_n hx hb d_Lw_law_1145 rfl (lv_at hl 5 rfl) ?_
          refine lv_iconst (v := 0) hx hb d_Lw_law_1146 (by decide) ?_
          refine mm_lald hX hP d_Lw_law_1147 ?_
          refine lv_iload hx hb d_Lw_law_1148 (lv_at hl 0 rfl) ?_
          refine lv_i2l hx hb d_Lw_law_1150 rfl ?_
          refine W.lcmp hx hb d_Lw_law_1151 ?_
          refine lv_if_eq (tgt := 1157) hx hb d_Lw_law_1152 rfl (fun hc => ?_) (fun hc => ?_)
          · have h := mm_pos hc h
            refine lv_goto (tgt := 1316) hx hb d_Lw_law_1157 rfl ?_
            cases h
            exact kk _ _ _ _ _ hP hF hsc (lv_sub (l' := [(0, .ref b), (1, .ref (L.2.1 0 0)), (2, .ref (L.2.1 20 0)), (3, .ref (L.2.1 50 0)), (4, .int x4)]) hl [2, 3, 4, 5, 6] rfl) (by omega) (by omega)
          · have h := mm_neg hc h
            refine lv_iconst (v := 0) hx hb d_Lw_law_1155 (by decide) ?_
            cases h
      · have h := mm_neg hc h
        refine lv_iconst (v := 0) hx hb d_Lw_law_1138 (by decide) ?_
        cases h
    · cases h
  · cases h
def f_Lw_case1160 (n : Nat) (xs : Nat → Int32) (Ln : Nat) (g : mm_M) (x4 : Int32) : Option mm_M :=
  mm_ix (x4 + 1) Ln (mm_ix (x4 + 2) Ln (mm_ob (f_Lw_served n g 0 (xs (x4 + 1).toNatClampNeg) (xs (x4 + 2).toNatClampNeg) 0) (fun z1 g2 => mm_ix (x4 + 1) Ln (mm_ix (x4 + 2) Ln (mm_tc (f_Mo_served n g2 0 (xs (x4 + 1).toNatClampNeg) (xs (x4 + 2).toNatClampNeg)) (fun z4 g5 => mm_tc (f_Mo_thrown n g5 0) (fun z7 g8 => (if z7 = z1 then (if z1 = 0 then (if (lg_cmp (Int32.toInt64 (g8 50 0 0)) (Int32.toInt64 z4)) = 0 then some g8 else none) else some g8) else none)) (fun _ _ => none)) (fun _ _ => none))))))
set_option maxRecDepth 100000 in
set_option maxHeartbeats 4000000 in
theorem w_Lw_case1160 {p : Program} {l : Launch} {e : Env} {R : Room} {s : State} {m : MethodId} {args : Array Value} {below : List Frame} {meth : Method} {c : Code} {L : mm_L} {hh : List (Nat × Nat × Nat × Nat)} {Q : State → Prop} {b Ln : Nat} {xs : Nat → Int32} {scr : Cell} {g g' : mm_M} {x4 : Int32} {H : Heap} {locs : List Loc} {ls : Array Slot} {cells slots : Nat} (hX : mm_Xh hh L code 7 "LoanArrowsLaw" (some .boolean) 11 392 p l R s m meth c) (hb0 : ¬ mm_F L b) (hss : mm_scr s scr Ln xs) (h : f_Lw_case1160 L.1 xs Ln g x4 = some g') (hP : mm_P L g H) (hF : ∀ q ∈ locs, mm_F L q.base) (hsc : H[b]? = some scr) (hl : lv_has ls 7 [(0, .ref b), (1, .ref (L.2.1 0 0)), (2, .ref (L.2.1 20 0)), (3, .ref (L.2.1 50 0)), (4, .int x4)]) (hcA : cells + 2 ≤ R.cells) (hsA : slots + 12 ≤ R.slots)
    (kk : ∀ (H1 : Heap) (locs1 : List Loc) (ls1 : Array Slot) (cells1 slots1 : Nat), mm_P L g' H1 → (∀ q ∈ locs1, mm_F L q.base) → H1[b]? = some scr → lv_has ls1 7 [(0, .ref b), (1, .ref (L.2.1 0 0)), (2, .ref (L.2.1 20 0)), (3, .ref (L.2.1 50 0)), (4, .int x4)] → cells1 ≤ cells + 1 → slots1 ≤ slots + 6 → W p l e R s m args below meth c H1 locs1 cells1 slots1 Q (F0 m 1316 ls1 [])) : W p l e R s m args below meth c H locs cells slots Q (F0 m 1160 ls []) := by
  have hX0 := hX
  obtain ⟨hx, hb, hml, hown, hr, hlk, hex, hRf, hRl, hRc, hRs, hJ, hK, hst, h00⟩ := hX0
  unfold f_Lw_case1160 at h
  refine lv_aload_n hx hb d_Lw_law_1160 rfl (lv_at hl 1 rfl) ?_
  refine lv_aload_n hx hb d_Lw_law_1161 rfl (lv_at hl 0 rfl) ?_
  refine lv_iload hx hb d_Lw_law_1162 (lv_at hl 4 rfl) ?_
  refine lv_iconst (v := 1) hx hb d_Lw_law_1164 (by decide) ?_
  refine lv_iadd hx hb d_Lw_law_1165 ?_
  obtain ⟨hin, h⟩ := mm_ix_some h
  refine mm_sld hX hsc hss hin d_Lw_law_1166 ?_
  refine lv_aload_n hx hb d_Lw_law_1167 rfl (lv_at hl 0 rfl) ?_
  refine lv_iload hx hb d_Lw_law_1168 (lv_at hl 4 rfl) ?_
  refine lv_iconst (v := 2) hx hb d_Lw_law_1170 (by decide) ?_
  refine lv_iadd hx hb d_Lw_law_1171 ?_
  obtain ⟨hin, h⟩ := mm_ix_some h
  refine mm_sld hX hsc hss hin d_Lw_law_1172 ?_
  refine lv_aload_n hx hb d_Lw_law_1173 rfl (lv_at hl 3 rfl) ?_
  obtain ⟨⟨z1, g2⟩, hf3, h⟩ := mm_ob_some h
  refine mm_goS1 (As := [.ref (L.2.1 0 0), .int (xs (x4 + 1).toNatClampNeg), .int (xs (x4 + 2).toNatClampNeg), .ref (L.2.1 50 0)]) (rest := []) hX (c_Lw_served mm_ls0 mm_ls50 hf3) wt_582 (by decide +kernel) ⟨by decide +kernel, by decide +kernel⟩ (by show (parseMethodDescriptor (y_Lw_served).desc).map (fun d => d.parameters.length) = some 4; decide +kernel) wt_580 wt_581 wt_0 hP hF rfl hl.1 (Nat.le_of_ble_eq_true rfl) (by decide) (by decide) (by omega) (by omega) d_Lw_law_1174 (fun H locs hP hF hO => ?_)
  have hsc := hO b scr hb0 hsc
  refine lv_istore hx hb d_Lw_law_1177 hl (Nat.lt_of_lt_of_le (Nat.lt_succ_self _) (Nat.le_of_ble_eq_true rfl)) rfl (fun ls hl => ?_)
  have hl : lv_has ls 7 [(5, .int z1), (0, .ref b), (1, .ref (L.2.1 0 0)), (2, .ref (L.2.1 20 0)), (3, .ref (L.2.1 50 0)), (4, .int x4)] := hl
  refine lv_aload_n hx hb d_Lw_law_1179 rfl (lv_at hl 3 rfl) ?_
  refine lv_aload_n hx hb d_Lw_law_1180 rfl (lv_at hl 1 rfl) ?_
  refine lv_iload hx hb d_Lw_law_1181 (lv_at hl 5 rfl) ?_
  refine lv_iconst (v := 1) hx hb d_Lw_law_1183 (by decide) ?_
  refine lv_iadd hx hb d_Lw_law_1184 ?_
  obtain ⟨hin, h⟩ := mm_ix_some h
  refine mm_sld hX hsc hss hin d_Lw_law_1185 ?_
  refine lv_aload_n hx hb d_Lw_law_1186 rfl (lv_at hl 1 rfl) ?_
  refine lv_iload hx hb d_Lw_law_1187 (lv_at hl 5 rfl) ?_
  refine lv_iconst (v := 2) hx hb d_Lw_law_1189 (by decide) ?_
  refine lv_iadd hx hb d_Lw_law_1190 ?_
  obtain ⟨hin, h⟩ := mm_ix_some h
  refine mm_sld hX hsc hss hin d_Lw_law_1191 ?_
  rcases mm_tc_some h with ⟨z4, g5, hf6, h⟩ | ⟨xe, z4, g5, hf6, h⟩
  · refine mm_goR (v := (some (.int z4))) (mm_goV (As := [.int (xs (x4 + 1).toNatClampNeg), .int (xs (x4 + 2).toNatClampNeg)]) (rest := []) hX (c_Mo_served mm_ls20 hf6) yw_Mo_served wt_836 wt_837 wt_838 hP hF (mm_recv (h := 20) (i := 0) hX hP mm_ls20 rfl rfl) rfl hl.1 (Nat.le_of_ble_eq_true rfl) (by decide) (by decide) (by omega) (by omega) d_Lw_law_1192) hF (fun H locs hP hF hO => ?_)
    have hsc := hO b scr hb0 hsc
    refine lv_istore hx hb d_Lw_law_1195 hl (Nat.lt_of_lt_of_le (Nat.lt_succ_self _) (Nat.le_of_ble_eq_true rfl)) rfl (fun ls hl => ?_)
    have hl : lv_has ls 7 [(6, .int z4), (5, .int z1), (0, .ref b), (1, .ref (L.2.1 0 0)), (2, .ref (L.2.1 20 0)), (3, .ref (L.2.1 50 0)), (4, .int x4)] := hl
    refine lv_aload_n hx hb d_Lw_law_1197 rfl (lv_at hl 4 rfl) ?_
    rcases mm_tc_some h with ⟨z7, g8, hf9, h⟩ | ⟨xe, z7, g8, hf9, h⟩
    · refine mm_goR (v := (some (.int z7))) (mm_goV (As := []) (rest := []) hX (c_Mo_thrown mm_ls20 hf9) yw_Mo_thrown wt_694 wt_695 wt_696 hP hF (mm_recv (h := 20) (i := 0) hX hP mm_ls20 rfl rfl) rfl hl.1 (Nat.le_of_ble_eq_true rfl) (by decide) (by decide) (by omega) (by omega) d_Lw_law_1198) hF (fun H locs hP hF hO => ?_)
      have hsc := hO b scr hb0 hsc
      refine lv_iload hx hb d_Lw_law_1201 (lv_at hl 1 rfl) ?_
      refine lv_icmp_eq (tgt := 1208) hx hb d_Lw_law_1203 rfl (fun hc => ?_) (fun hc => ?_)
      · have h := mm_pos hc h
        refine lv_iload hx hb d_Lw_law_1208 (lv_at hl 1 rfl) ?_
        refine lv_if_ne (tgt := 1225) hx hb d_Lw_law_1210 rfl (fun hc => ?_) (fun hc => ?_)
        · have h := mm_neg hc h
          refine lv_goto (tgt := 1316) hx hb d_Lw_law_1225 rfl ?_
          cases h
          exact kk _ _ _ _ _ hP hF hsc (lv_sub (l' := [(0, .ref b), (1, .ref (L.2.1 0 0)), (2, .ref (L.2.1 20 0)), (3, .ref (L.2.1 50 0)), (4, .int x4)]) hl [2, 3, 4, 5, 6] rfl) (by omega) (by omega)
        · have h := mm_pos hc h
          refine lv_aload_n hx hb d_Lw_law_1213 rfl (lv_at hl 5 rfl) ?_
          refine lv_iconst (v := 0) hx hb d_Lw_law_1214 (by decide) ?_
          refine mm_lald hX hP d_Lw_law_1215 ?_
          refine lv_iload hx hb d_Lw_law_1216 (lv_at hl 0 rfl) ?_
          refine lv_i2l hx hb d_Lw_law_1218 rfl ?_
          refine W.lcmp hx hb d_Lw_law_1219 ?_
          refine lv_if_eq (tgt := 1225) hx hb d_Lw_law_1220 rfl (fun hc => ?_) (fun hc => ?_)
          · have h := mm_pos hc h
            refine lv_goto (tgt := 1316) hx hb d_Lw_law_1225 rfl ?_
            cases h
            exact kk _ _ _ _ _ hP hF hsc (lv_sub (l' := [(0, .ref b), (1, .ref (L.2.1 0 0)), (2, .ref (L.2.1 20 0)), (3, .ref (L.2.1 50 0)), (4, .int x4)]) hl [2, 3, 4, 5, 6] rfl) (by omega) (by omega)
          · have h := mm_neg hc h
            refine lv_iconst (v := 0) hx hb d_Lw_law_1223 (by decide) ?_
            cases h
      · have h := mm_neg hc h
        refine lv_iconst (v := 0) hx hb d_Lw_law_1206 (by decide) ?_
        cases h
    · cases h
  · cases h
def f_Lw_case1228 (n : Nat) (xs : Nat → Int32) (Ln : Nat) (g : mm_M) (x4 : Int32) : Option mm_M :=
  mm_ix (x4 + 1) Ln (mm_ix (x4 + 2) Ln (mm_ob (f_Lw_leads n g 0 (xs (x4 + 1).toNatClampNeg) (xs (x4 + 2).toNatClampNeg) 0) (fun z1 g2 => mm_ix (x4 + 1) Ln (mm_ix (x4 + 2) Ln (mm_tc (f_Mo_leads n g2 0 (xs (x4 + 1).toNatClampNeg) (xs (x4 + 2).toNatClampNeg)) (fun z4 g5 => mm_tc (f_Mo_thrown n g5 0) (fun z7 g8 => (if z7 = z1 then (if z1 = 0 then (if z4 = 0 then (if (lg_cmp (Int32.toInt64 (g8 50 0 0)) (Int32.toInt64 0)) = 0 then some g8 else none) else (if (lg_cmp (Int32.toInt64 (g8 50 0 0)) (Int32.toInt64 1)) = 0 then some g8 else none)) else some g8) else none)) (fun _ _ => none)) (fun _ _ => none))))))
set_option maxRecDepth 100000 in
set_option maxHeartbeats 4000000 in
theorem w_Lw_case1228 {p : Program} {l : Launch} {e : Env} {R : Room} {s : State} {m : MethodId} {args : Array Value} {below : List Frame} {meth : Method} {c : Code} {L : mm_L} {hh : List (Nat × Nat × Nat × Nat)} {Q : State → Prop} {b Ln : Nat} {xs : Nat → Int32} {scr : Cell} {g g' : mm_M} {x4 : Int32} {H : Heap} {locs : List Loc} {ls : Array Slot} {cells slots : Nat} (hX : mm_Xh hh L code 7 "LoanArrowsLaw" (some .boolean) 11 392 p l R s m meth c) (hb0 : ¬ mm_F L b) (hss : mm_scr s scr Ln xs) (h : f_Lw_case1228 L.1 xs Ln g x4 = some g') (hP : mm_P L g H) (hF : ∀ q ∈ locs, mm_F L q.base) (hsc : H[b]? = some scr) (hl : lv_has ls 7 [(0, .ref b), (1, .ref (L.2.1 0 0)), (2, .ref (L.2.1 20 0)), (3, .ref (L.2.1 50 0)), (4, .int x4)]) (hcA : cells + 2 ≤ R.cells) (hsA : slots + 12 ≤ R.slots)
    (kk : ∀ (H1 : Heap) (locs1 : List Loc) (ls1 : Array Slot) (cells1 slots1 : Nat), mm_P L g' H1 → (∀ q ∈ locs1, mm_F L q.base) → H1[b]? = some scr → lv_has ls1 7 [(0, .ref b), (1, .ref (L.2.1 0 0)), (2, .ref (L.2.1 20 0)), (3, .ref (L.2.1 50 0)), (4, .int x4)] → cells1 ≤ cells + 1 → slots1 ≤ slots + 6 → W p l e R s m args below meth c H1 locs1 cells1 slots1 Q (F0 m 1316 ls1 [])) : W p l e R s m args below meth c H locs cells slots Q (F0 m 1228 ls []) := by
  have hX0 := hX
  obtain ⟨hx, hb, hml, hown, hr, hlk, hex, hRf, hRl, hRc, hRs, hJ, hK, hst, h00⟩ := hX0
  unfold f_Lw_case1228 at h
  refine lv_aload_n hx hb d_Lw_law_1228 rfl (lv_at hl 1 rfl) ?_
  refine lv_aload_n hx hb d_Lw_law_1229 rfl (lv_at hl 0 rfl) ?_
  refine lv_iload hx hb d_Lw_law_1230 (lv_at hl 4 rfl) ?_
  refine lv_iconst (v := 1) hx hb d_Lw_law_1232 (by decide) ?_
  refine lv_iadd hx hb d_Lw_law_1233 ?_
  obtain ⟨hin, h⟩ := mm_ix_some h
  refine mm_sld hX hsc hss hin d_Lw_law_1234 ?_
  refine lv_aload_n hx hb d_Lw_law_1235 rfl (lv_at hl 0 rfl) ?_
  refine lv_iload hx hb d_Lw_law_1236 (lv_at hl 4 rfl) ?_
  refine lv_iconst (v := 2) hx hb d_Lw_law_1238 (by decide) ?_
  refine lv_iadd hx hb d_Lw_law_1239 ?_
  obtain ⟨hin, h⟩ := mm_ix_some h
  refine mm_sld hX hsc hss hin d_Lw_law_1240 ?_
  refine lv_aload_n hx hb d_Lw_law_1241 rfl (lv_at hl 3 rfl) ?_
  obtain ⟨⟨z1, g2⟩, hf3, h⟩ := mm_ob_some h
  refine mm_goS1 (As := [.ref (L.2.1 0 0), .int (xs (x4 + 1).toNatClampNeg), .int (xs (x4 + 2).toNatClampNeg), .ref (L.2.1 50 0)]) (rest := []) hX (c_Lw_leads mm_ls0 mm_ls50 hf3) wt_593 (by decide +kernel) ⟨by decide +kernel, by decide +kernel⟩ (by show (parseMethodDescriptor (y_Lw_leads).desc).map (fun d => d.parameters.length) = some 4; decide +kernel) wt_591 wt_592 wt_0 hP hF rfl hl.1 (Nat.le_of_ble_eq_true rfl) (by decide) (by decide) (by omega) (by omega) d_Lw_law_1242 (fun H locs hP hF hO => ?_)
  have hsc := hO b scr hb0 hsc
  refine lv_istore hx hb d_Lw_law_1245 hl (Nat.lt_of_lt_of_le (Nat.lt_succ_self _) (Nat.le_of_ble_eq_true rfl)) rfl (fun ls hl => ?_)
  have hl : lv_has ls 7 [(5, .int z1), (0, .ref b), (1, .ref (L.2.1 0 0)), (2, .ref (L.2.1 20 0)), (3, .ref (L.2.1 50 0)), (4, .int x4)] := hl
  refine lv_aload_n hx hb d_Lw_law_1247 rfl (lv_at hl 3 rfl) ?_
  refine lv_aload_n hx hb d_Lw_law_1248 rfl (lv_at hl 1 rfl) ?_
  refine lv_iload hx hb d_Lw_law_1249 (lv_at hl 5 rfl) ?_
  refine lv_iconst (v := 1) hx hb d_Lw_law_1251 (by decide) ?_
  refine lv_iadd hx hb d_Lw_law_1252 ?_
  obtain ⟨hin, h⟩ := mm_ix_some h
  refine mm_sld hX hsc hss hin d_Lw_law_1253 ?_
  refine lv_aload_n hx hb d_Lw_law_1254 rfl (lv_at hl 1 rfl) ?_
  refine lv_iload hx hb d_Lw_law_1255 (lv_at hl 5 rfl) ?_
  refine lv_iconst (v := 2) hx hb d_Lw_law_1257 (by decide) ?_
  refine lv_iadd hx hb d_Lw_law_1258 ?_
  obtain ⟨hin, h⟩ := mm_ix_some h
  refine mm_sld hX hsc hss hin d_Lw_law_1259 ?_
  rcases mm_tc_some h with ⟨z4, g5, hf6, h⟩ | ⟨xe, z4, g5, hf6, h⟩
  · refine mm_goR (v := (some (.int z4))) (mm_goV (As := [.int (xs (x4 + 1).toNatClampNeg), .int (xs (x4 + 2).toNatClampNeg)]) (rest := []) hX (c_Mo_leads mm_ls20 hf6) yw_Mo_leads wt_840 wt_841 wt_842 hP hF (mm_recv (h := 20) (i := 0) hX hP mm_ls20 rfl rfl) rfl hl.1 (Nat.le_of_ble_eq_true rfl) (by decide) (by decide) (by omega) (by omega) d_Lw_law_1260) hF (fun H locs hP hF hO => ?_)
    have hsc := hO b scr hb0 hsc
    refine lv_istore hx hb d_Lw_law_1263 hl (Nat.lt_of_lt_of_le (Nat.lt_succ_self _) (Nat.le_of_ble_eq_true rfl)) rfl (fun ls hl => ?_)
    have hl : lv_has ls 7 [(6, .int z4), (5, .int z1), (0, .ref b), (1, .ref (L.2.1 0 0)), (2, .ref (L.2.1 20 0)), (3, .ref (L.2.1 50 0)), (4, .int x4)] := hl
    refine lv_aload_n hx hb d_Lw_law_1265 rfl (lv_at hl 4 rfl) ?_
    rcases mm_tc_some h with ⟨z7, g8, hf9, h⟩ | ⟨xe, z7, g8, hf9, h⟩
    · refine mm_goR (v := (some (.int z7))) (mm_goV (As := []) (rest := []) hX (c_Mo_thrown mm_ls20 hf9) yw_Mo_thrown wt_694 wt_695 wt_696 hP hF (mm_recv (h := 20) (i := 0) hX hP mm_ls20 rfl rfl) rfl hl.1 (Nat.le_of_ble_eq_true rfl) (by decide) (by decide) (by omega) (by omega) d_Lw_law_1266) hF (fun H locs hP hF hO => ?_)
      have hsc := hO b scr hb0 hsc
      refine lv_iload hx hb d_Lw_law_1269 (lv_at hl 1 rfl) ?_
      refine lv_icmp_eq (tgt := 1276) hx hb d_Lw_law_1271 rfl (fun hc => ?_) (fun hc => ?_)
      · have h := mm_pos hc h
        refine lv_iload hx hb d_Lw_law_1276 (lv_at hl 1 rfl) ?_
        refine lv_if_ne (tgt := 1300) hx hb d_Lw_law_1278 rfl (fun hc => ?_) (fun hc => ?_)
        · have h := mm_neg hc h
          refine lv_goto (tgt := 1316) hx hb d_Lw_law_1300 rfl ?_
          cases h
          exact kk _ _ _ _ _ hP hF hsc (lv_sub (l' := [(0, .ref b), (1, .ref (L.2.1 0 0)), (2, .ref (L.2.1 20 0)), (3, .ref (L.2.1 50 0)), (4, .int x4)]) hl [2, 3, 4, 5, 6] rfl) (by omega) (by omega)
        · have h := mm_pos hc h
          refine lv_aload_n hx hb d_Lw_law_1281 rfl (lv_at hl 5 rfl) ?_
          refine lv_iconst (v := 0) hx hb d_Lw_law_1282 (by decide) ?_
          refine mm_lald hX hP d_Lw_law_1283 ?_
          refine lv_iload hx hb d_Lw_law_1284 (lv_at hl 0 rfl) ?_
          refine lv_if_eq (tgt := 1293) hx hb d_Lw_law_1286 rfl (fun hc => ?_) (fun hc => ?_)
          · have h := mm_pos hc h
            refine lv_lconst (v := Int32.toInt64 0) hx hb d_Lw_law_1293 (by decide) ?_
            refine W.lcmp hx hb d_Lw_law_1294 ?_
            refine lv_if_eq (tgt := 1300) hx hb d_Lw_law_1295 rfl (fun hc => ?_) (fun hc => ?_)
            · have h := mm_pos hc h
              refine lv_goto (tgt := 1316) hx hb d_Lw_law_1300 rfl ?_
              cases h
              exact kk _ _ _ _ _ hP hF hsc (lv_sub (l' := [(0, .ref b), (1, .ref (L.2.1 0 0)), (2, .ref (L.2.1 20 0)), (3, .ref (L.2.1 50 0)), (4, .int x4)]) hl [2, 3, 4, 5, 6] rfl) (by omega) (by omega)
            · have h := mm_neg hc h
              refine lv_iconst (v := 0) hx hb d_Lw_law_1298 (by decide) ?_
              cases h
          · have h := mm_neg hc h
            refine lv_lconst (v := Int32.toInt64 1) hx hb d_Lw_law_1289 (by decide) ?_
            refine lv_goto (tgt := 1294) hx hb d_Lw_law_1290 rfl ?_
            refine W.lcmp hx hb d_Lw_law_1294 ?_
            refine lv_if_eq (tgt := 1300) hx hb d_Lw_law_1295 rfl (fun hc => ?_) (fun hc => ?_)
            · have h := mm_pos hc h
              refine lv_goto (tgt := 1316) hx hb d_Lw_law_1300 rfl ?_
              cases h
              exact kk _ _ _ _ _ hP hF hsc (lv_sub (l' := [(0, .ref b), (1, .ref (L.2.1 0 0)), (2, .ref (L.2.1 20 0)), (3, .ref (L.2.1 50 0)), (4, .int x4)]) hl [2, 3, 4, 5, 6] rfl) (by omega) (by omega)
            · have h := mm_neg hc h
              refine lv_iconst (v := 0) hx hb d_Lw_law_1298 (by decide) ?_
              cases h
      · have h := mm_neg hc h
        refine lv_iconst (v := 0) hx hb d_Lw_law_1274 (by decide) ?_
        cases h
    · cases h
  · cases h
def f_Lw_case1303 (n : Nat) (xs : Nat → Int32) (Ln : Nat) (g : mm_M) (x4 : Int32) : Option mm_M :=
  mm_tc (f_LA_quiet n g 0) (fun z1 g2 => mm_tc (f_Mo_quiet n g2 0) (fun z4 g5 => (if z1 = z4 then some g5 else none)) (fun _ _ => none)) (fun _ _ => none)
set_option maxRecDepth 100000 in
set_option maxHeartbeats 4000000 in
theorem w_Lw_case1303 {p : Program} {l : Launch} {e : Env} {R : Room} {s : State} {m : MethodId} {args : Array Value} {below : List Frame} {meth : Method} {c : Code} {L : mm_L} {hh : List (Nat × Nat × Nat × Nat)} {Q : State → Prop} {b Ln : Nat} {xs : Nat → Int32} {scr : Cell} {g g' : mm_M} {x4 : Int32} {H : Heap} {locs : List Loc} {ls : Array Slot} {cells slots : Nat} (hX : mm_Xh hh L code 7 "LoanArrowsLaw" (some .boolean) 11 392 p l R s m meth c) (hb0 : ¬ mm_F L b) (hss : mm_scr s scr Ln xs) (h : f_Lw_case1303 L.1 xs Ln g x4 = some g') (hP : mm_P L g H) (hF : ∀ q ∈ locs, mm_F L q.base) (hsc : H[b]? = some scr) (hl : lv_has ls 7 [(0, .ref b), (1, .ref (L.2.1 0 0)), (2, .ref (L.2.1 20 0)), (3, .ref (L.2.1 50 0)), (4, .int x4)]) (hcA : cells + 2 ≤ R.cells) (hsA : slots + 12 ≤ R.slots)
    (kk : ∀ (H1 : Heap) (locs1 : List Loc) (ls1 : Array Slot) (cells1 slots1 : Nat), mm_P L g' H1 → (∀ q ∈ locs1, mm_F L q.base) → H1[b]? = some scr → lv_has ls1 7 [(0, .ref b), (1, .ref (L.2.1 0 0)), (2, .ref (L.2.1 20 0)), (3, .ref (L.2.1 50 0)), (4, .int x4)] → cells1 ≤ cells + 1 → slots1 ≤ slots + 6 → W p l e R s m args below meth c H1 locs1 cells1 slots1 Q (F0 m 1316 ls1 [])) : W p l e R s m args below meth c H locs cells slots Q (F0 m 1303 ls []) := by
  have hX0 := hX
  obtain ⟨hx, hb, hml, hown, hr, hlk, hex, hRf, hRl, hRc, hRs, hJ, hK, hst, h00⟩ := hX0
  unfold f_Lw_case1303 at h
  refine lv_aload_n hx hb d_Lw_law_1303 rfl (lv_at hl 1 rfl) ?_
  rcases mm_tc_some h with ⟨z1, g2, hf3, h⟩ | ⟨xe, z1, g2, hf3, h⟩
  · refine mm_goR (v := (some (.int z1))) (mm_goV (As := []) (rest := []) hX (c_LA_quiet mm_ls0 hf3) yw_LA_quiet wt_179 wt_180 wt_181 hP hF (mm_recv (h := 0) (i := 0) hX hP mm_ls0 rfl rfl) rfl hl.1 (Nat.le_of_ble_eq_true rfl) (by decide) (by decide) (by omega) (by omega) d_Lw_law_1304) hF (fun H locs hP hF hO => ?_)
    have hsc := hO b scr hb0 hsc
    refine lv_aload_n hx hb d_Lw_law_1307 rfl (lv_at hl 2 rfl) ?_
    rcases mm_tc_some h with ⟨z4, g5, hf6, h⟩ | ⟨xe, z4, g5, hf6, h⟩
    · refine mm_goR (v := (some (.int z4))) (mm_goV (As := []) (rest := [.int z1]) hX (c_Mo_quiet mm_ls20 hf6) yw_Mo_quiet wt_844 wt_845 wt_846 hP hF (mm_recv (h := 20) (i := 0) hX hP mm_ls20 rfl rfl) rfl hl.1 (Nat.le_of_ble_eq_true rfl) (by decide) (by decide) (by omega) (by omega) d_Lw_law_1308) hF (fun H locs hP hF hO => ?_)
      have hsc := hO b scr hb0 hsc
      refine lv_icmp_eq (tgt := 1316) hx hb d_Lw_law_1311 rfl (fun hc => ?_) (fun hc => ?_)
      · have h := mm_pos hc h
        cases h
        exact kk _ _ _ _ _ hP hF hsc (lv_sub (l' := [(0, .ref b), (1, .ref (L.2.1 0 0)), (2, .ref (L.2.1 20 0)), (3, .ref (L.2.1 50 0)), (4, .int x4)]) hl [0, 1, 2, 3, 4] rfl) (by omega) (by omega)
      · have h := mm_neg hc h
        refine lv_iconst (v := 0) hx hb d_Lw_law_1314 (by decide) ?_
        cases h
    · cases h
  · cases h

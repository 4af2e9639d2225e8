/-! the law's loop -/
theorem LS_up {n sh T : Nat} {g : mm_M} (h : mm_LS n sh T g) : mm_LS n sh (T + 1) g := by
  obtain ⟨C, M, A, h1, h2, h3, h4⟩ := h
  exact ⟨C, M, A, h1, h2, h3, Pr_up h4 (Nat.le_succ T)⟩
theorem gt_iff {Ln i : Nat} (hL : Ln ≤ 2050) (hi : i ≤ 3000) : (Int32.ofNat Ln - 4 < nI i) ↔ Ln < i + 4 := by
  have a : (Int32.ofNat Ln - 4).toInt = (Ln : Int) - 4 := pk_sub_toInt (a := Ln) (b := 4) (by omega) (by decide)
  have b : (nI i).toInt = (i : Int) := nI_toInt (by omega)
  rw [Int32.lt_iff_toInt_lt, a, b]
  omega
set_option maxRecDepth 100000 in
set_option maxHeartbeats 4000000 in
theorem lw_loop {p : Program} {l : Launch} {e : Env} {R : Room} {s : State} {m : MethodId} {args : Array Value} {below : List Frame} {meth : Method} {c : Code} {L : mm_L} {hh : List (Nat × Nat × Nat × Nat)} {Q : State → Prop} {b Ln sh : Nat} {xs : Nat → Int32} {scr : Cell} (hX : mm_Xh hh L code 7 "LoanArrowsLaw" (some .boolean) 11 392 p l R s m meth c) (hb0 : ¬ mm_F L b) (hss : mm_scr s scr Ln xs) (hs : sh < 3) (hn : L.1 ≤ 12) (hn2 : 2 ≤ L.1) (hLn : Ln ≤ 2050)
    (hend : ∀ (H : Heap) (locs : List Loc) (ls : Array Slot) (cells slots : Nat), (∀ q ∈ locs, mm_F L q.base) → cells + 2 ≤ R.cells → slots + 12 ≤ R.slots → W p l e R s m args below meth c H locs cells slots Q (F0 m 1322 ls [])) :
    ∀ (r T i : Nat) (g : mm_M) (H : Heap) (locs : List Loc) (ls : Array Slot) (cells slots : Nat), mm_LS L.1 sh T g → T + r < 1000000 → 2 ≤ i → i + 4 * r ≤ 3000 → Ln < i + 4 + 4 * r → cells + r + 2 ≤ R.cells → slots + 6 * r + 12 ≤ R.slots → mm_P L g H → (∀ q ∈ locs, mm_F L q.base) → H[b]? = some scr → lv_has ls 7 [(0, .ref b), (1, .ref (L.2.1 0 0)), (2, .ref (L.2.1 20 0)), (3, .ref (L.2.1 50 0)), (4, .int (nI i))] → W p l e R s m args below meth c H locs cells slots Q (F0 m 43 ls []) := by
  have hX0 := hX
  obtain ⟨hx, hb, hml, hown, hr, hlk, hex, hRf, hRl, hRc, hRs, hJ, hK, hst, h00⟩ := hX0
  intro r
  induction r with
  | zero =>
    intro T i g H locs ls cells slots hg hT hi hi2 hm hc1 hs1 hP hF hsc hl
    refine lv_iload hx hb d_Lw_law_43 (lv_at hl 4 rfl) ?_
    refine lv_aload_n hx hb d_Lw_law_45 rfl (lv_at hl 0 rfl) ?_
    refine mm_slen hX hsc hss d_Lw_law_46 ?_
    refine lv_iconst (v := 4) hx hb d_Lw_law_47 (by decide) ?_
    refine lv_isub hx hb d_Lw_law_48 ?_
    refine lv_icmp_gt (tgt := 1322) hx hb d_Lw_law_49 rfl (fun hc => ?_) (fun hc => ?_)
    · exact hend _ _ _ _ _ hF (by omega) (by omega)
    · exact absurd ((gt_iff hLn (by omega)).mpr (by omega)) hc
  | succ r ih =>
    intro T i g H locs ls cells slots hg hT hi hi2 hm hc1 hs1 hP hF hsc hl
    refine lv_iload hx hb d_Lw_law_43 (lv_at hl 4 rfl) ?_
    refine lv_aload_n hx hb d_Lw_law_45 rfl (lv_at hl 0 rfl) ?_
    refine mm_slen hX hsc hss d_Lw_law_46 ?_
    refine lv_iconst (v := 4) hx hb d_Lw_law_47 (by decide) ?_
    refine lv_isub hx hb d_Lw_law_48 ?_
    refine lv_icmp_gt (tgt := 1322) hx hb d_Lw_law_49 rfl (fun hc => ?_) (fun hc => ?_)
    · exact hend _ _ _ _ _ hF (by omega) (by omega)
    have him : i + 4 ≤ Ln := by
      have q : ¬ Ln < i + 4 := fun q => hc ((gt_iff hLn (by omega)).mpr q)
      omega
    refine lv_aload_n hx hb d_Lw_law_52 rfl (lv_at hl 0 rfl) ?_
    refine lv_iload hx hb d_Lw_law_53 (lv_at hl 4 rfl) ?_
    refine mm_sld hX hsc hss (x := nI i) (nI_in (by omega) (by omega)) d_Lw_law_55 ?_
    refine lv_bipush (v := 31) hx hb d_Lw_law_56 (by decide) ?_
    refine lv_iand hx hb d_Lw_law_58 ?_
    generalize (xs (nI i).toNatClampNeg &&& 31) = sw
    have nx : ∀ (g' : mm_M) (H1 : Heap) (locs1 : List Loc) (ls1 : Array Slot) (cells1 slots1 : Nat), mm_LS L.1 sh (T + 1) g' → mm_P L g' H1 → (∀ q ∈ locs1, mm_F L q.base) → H1[b]? = some scr → lv_has ls1 7 [(0, .ref b), (1, .ref (L.2.1 0 0)), (2, .ref (L.2.1 20 0)), (3, .ref (L.2.1 50 0)), (4, .int (nI i))] → cells1 ≤ cells + 1 → slots1 ≤ slots + 6 → W p l e R s m args below meth c H1 locs1 cells1 slots1 Q (F0 m 1316 ls1 []) := by
      intro g' H1 locs1 ls1 cells1 slots1 hg' hP1 hF1 hsc1 hl1 hc9 hs9
      refine lv_iinc (k := 4) (v := nI (i + 4)) hx hb d_Lw_law_1316 hl1 rfl (nI_add i 4) (by decide) rfl (fun ls2 hl2 => ?_)
      refine lv_goto (tgt := 43) hx hb d_Lw_law_1319 rfl ?_
      exact ih (T + 1) (i + 4) g' H1 locs1 ls2 cells1 slots1 hg' (by omega) (by omega) (by omega) (by omega) (by omega) (by omega) hP1 hF1 hsc1 (lv_sub (l' := [(0, .ref b), (1, .ref (L.2.1 0 0)), (2, .ref (L.2.1 20 0)), (3, .ref (L.2.1 50 0)), (4, .int (nI (i + 4)))]) hl2 [1, 2, 3, 4, 0] rfl)
    by_cases hc0 : sw = 0
    · refine lv_tableIn (off := 93) (tgt := 152) hx hb d_Lw_law_59 (by rw [hc0]; decide) (by rw [hc0]; decide) (by rw [hc0]; rfl) rfl ?_
      obtain ⟨g', hf, hg'⟩ := lw_152 (xs := xs) hs hn hn2 (by omega) him hLn hg
      exact w_Lw_case152 hX hb0 hss hf hP hF hsc hl (by omega) (by omega) (fun H1 locs1 ls1 c1 s1 a1 a2 a3 a4 a5 a6 => nx g' H1 locs1 ls1 c1 s1 hg' a1 a2 a3 a4 a5 a6)
    by_cases hc1 : sw = 1
    · refine lv_tableIn (off := 141) (tgt := 200) hx hb d_Lw_law_59 (by rw [hc1]; decide) (by rw [hc1]; decide) (by rw [hc1]; rfl) rfl ?_
      obtain ⟨g', hf, hg'⟩ := lw_200 (xs := xs) hs hn hn2 (by omega) him hLn hg
      exact w_Lw_case200 hX hb0 hss hf hP hF hsc hl (by omega) (by omega) (fun H1 locs1 ls1 c1 s1 a1 a2 a3 a4 a5 a6 => nx g' H1 locs1 ls1 c1 s1 hg' a1 a2 a3 a4 a5 a6)
    by_cases hc2 : sw = 2
    · refine lv_tableIn (off := 221) (tgt := 280) hx hb d_Lw_law_59 (by rw [hc2]; decide) (by rw [hc2]; decide) (by rw [hc2]; rfl) rfl ?_
      obtain ⟨g', hf, hg'⟩ := lw_280 (xs := xs) hs hn hn2 (by omega) him hLn hg
      exact w_Lw_case280 hX hb0 hss hf hP hF hsc hl (by omega) (by omega) (fun H1 locs1 ls1 c1 s1 a1 a2 a3 a4 a5 a6 => nx g' H1 locs1 ls1 c1 s1 hg' a1 a2 a3 a4 a5 a6)
    by_cases hc3 : sw = 3
    · refine lv_tableIn (off := 289) (tgt := 348) hx hb d_Lw_law_59 (by rw [hc3]; decide) (by rw [hc3]; decide) (by rw [hc3]; rfl) rfl ?_
      obtain ⟨g', hf, hg'⟩ := lw_348 (xs := xs) hs hn hn2 (by omega) him hLn hg
      exact w_Lw_case348 hX hb0 hss hf hP hF hsc hl (by omega) (by omega) (fun H1 locs1 ls1 c1 s1 a1 a2 a3 a4 a5 a6 => nx g' H1 locs1 ls1 c1 s1 hg' a1 a2 a3 a4 a5 a6)
    by_cases hc4 : sw = 4
    · refine lv_tableIn (off := 357) (tgt := 416) hx hb d_Lw_law_59 (by rw [hc4]; decide) (by rw [hc4]; decide) (by rw [hc4]; rfl) rfl ?_
      obtain ⟨g', hf, hg'⟩ := lw_416 (xs := xs) hs hn hn2 (by omega) him hLn hg
      exact w_Lw_case416 hX hb0 hss hf hP hF hsc hl (by omega) (by omega) (fun H1 locs1 ls1 c1 s1 a1 a2 a3 a4 a5 a6 => nx g' H1 locs1 ls1 c1 s1 hg' a1 a2 a3 a4 a5 a6)
    by_cases hc5 : sw = 5
    · refine lv_tableIn (off := 413) (tgt := 472) hx hb d_Lw_law_59 (by rw [hc5]; decide) (by rw [hc5]; decide) (by rw [hc5]; rfl) rfl ?_
      obtain ⟨g', hf, hg'⟩ := lw_472 (xs := xs) hs hn hn2 (by omega) him hLn hg
      exact w_Lw_case472 hX hb0 hss hf hP hF hsc hl (by omega) (by omega) (fun H1 locs1 ls1 c1 s1 a1 a2 a3 a4 a5 a6 => nx g' H1 locs1 ls1 c1 s1 hg' a1 a2 a3 a4 a5 a6)
    by_cases hc6 : sw = 6
    · refine lv_tableIn (off := 469) (tgt := 528) hx hb d_Lw_law_59 (by rw [hc6]; decide) (by rw [hc6]; decide) (by rw [hc6]; rfl) rfl ?_
      obtain ⟨g', hf, hg'⟩ := lw_528 (xs := xs) hs hn hn2 (by omega) him hLn hg
      exact w_Lw_case528 hX hb0 hss hf hP hF hsc hl (by omega) (by omega) (fun H1 locs1 ls1 c1 s1 a1 a2 a3 a4 a5 a6 => nx g' H1 locs1 ls1 c1 s1 hg' a1 a2 a3 a4 a5 a6)
    by_cases hc7 : sw = 7
    · refine lv_tableIn (off := 482) (tgt := 541) hx hb d_Lw_law_59 (by rw [hc7]; decide) (by rw [hc7]; decide) (by rw [hc7]; rfl) rfl ?_
      obtain ⟨g', hf, hg'⟩ := lw_541 (xs := xs) hs hn hn2 (by omega) him hLn hg
      exact w_Lw_case541 hX hb0 hss hf hP hF hsc hl (by omega) (by omega) (fun H1 locs1 ls1 c1 s1 a1 a2 a3 a4 a5 a6 => nx g' H1 locs1 ls1 c1 s1 hg' a1 a2 a3 a4 a5 a6)
    by_cases hc8 : sw = 8
    · refine lv_tableIn (off := 550) (tgt := 609) hx hb d_Lw_law_59 (by rw [hc8]; decide) (by rw [hc8]; decide) (by rw [hc8]; rfl) rfl ?_
      obtain ⟨g', hf, hg'⟩ := lw_609 (xs := xs) hs hn hn2 (by omega) him hLn hg
      exact w_Lw_case609 hX hb0 hss hf hP hF hsc hl (by omega) (by omega) (fun H1 locs1 ls1 c1 s1 a1 a2 a3 a4 a5 a6 => nx g' H1 locs1 ls1 c1 s1 hg' a1 a2 a3 a4 a5 a6)
    by_cases hc9 : sw = 9
    · refine lv_tableIn (off := 606) (tgt := 665) hx hb d_Lw_law_59 (by rw [hc9]; decide) (by rw [hc9]; decide) (by rw [hc9]; rfl) rfl ?_
      obtain ⟨g', hf, hg'⟩ := lw_665 (xs := xs) hs hn hn2 (by omega) him hLn hg
      exact w_Lw_case665 hX hb0 hss hf hP hF hsc hl (by omega) (by omega) (fun H1 locs1 ls1 c1 s1 a1 a2 a3 a4 a5 a6 => nx g' H1 locs1 ls1 c1 s1 hg' a1 a2 a3 a4 a5 a6)
    by_cases hc10 : sw = 10
    · refine lv_tableIn (off := 662) (tgt := 721) hx hb d_Lw_law_59 (by rw [hc10]; decide) (by rw [hc10]; decide) (by rw [hc10]; rfl) rfl ?_
      obtain ⟨g', hf, hg'⟩ := lw_721 (xs := xs) hs hn hn2 (by omega) him hLn hg
      exact w_Lw_case721 hX hb0 hss hf hP hF hsc hl (by omega) (by omega) (fun H1 locs1 ls1 c1 s1 a1 a2 a3 a4 a5 a6 => nx g' H1 locs1 ls1 c1 s1 hg' a1 a2 a3 a4 a5 a6)
    by_cases hc11 : sw = 11
    · refine lv_tableIn (off := 725) (tgt := 784) hx hb d_Lw_law_59 (by rw [hc11]; decide) (by rw [hc11]; decide) (by rw [hc11]; rfl) rfl ?_
      obtain ⟨g', hf, hg'⟩ := lw_784 (xs := xs) hs hn hn2 (by omega) him hLn hg
      exact w_Lw_case784 hX hb0 hss hf hP hF hsc hl (by omega) (by omega) (fun H1 locs1 ls1 c1 s1 a1 a2 a3 a4 a5 a6 => nx g' H1 locs1 ls1 c1 s1 hg' a1 a2 a3 a4 a5 a6)
    by_cases hc12 : sw = 12
    · refine lv_tableIn (off := 761) (tgt := 820) hx hb d_Lw_law_59 (by rw [hc12]; decide) (by rw [hc12]; decide) (by rw [hc12]; rfl) rfl ?_
      obtain ⟨g', hf, hg'⟩ := lw_820 (xs := xs) hs hn hn2 (by omega) him hLn hg
      exact w_Lw_case820 hX hb0 hss hf hP hF hsc hl (by omega) (by omega) (fun H1 locs1 ls1 c1 s1 a1 a2 a3 a4 a5 a6 => nx g' H1 locs1 ls1 c1 s1 hg' a1 a2 a3 a4 a5 a6)
    by_cases hc13 : sw = 13
    · refine lv_tableIn (off := 817) (tgt := 876) hx hb d_Lw_law_59 (by rw [hc13]; decide) (by rw [hc13]; decide) (by rw [hc13]; rfl) rfl ?_
      obtain ⟨g', hf, hg'⟩ := lw_876 (xs := xs) hs hn hn2 (by omega) him hLn hg
      exact w_Lw_case876 hX hb0 hss hf hP hF hsc hl (by omega) (by omega) (fun H1 locs1 ls1 c1 s1 a1 a2 a3 a4 a5 a6 => nx g' H1 locs1 ls1 c1 s1 hg' a1 a2 a3 a4 a5 a6)
    by_cases hc14 : sw = 14
    · refine lv_tableIn (off := 897) (tgt := 956) hx hb d_Lw_law_59 (by rw [hc14]; decide) (by rw [hc14]; decide) (by rw [hc14]; rfl) rfl ?_
      obtain ⟨g', hf, hg'⟩ := lw_956 (xs := xs) hs hn hn2 (by omega) him hLn hg
      exact w_Lw_case956 hX hb0 hss hf hP hF hsc hl (by omega) (by omega) (fun H1 locs1 ls1 c1 s1 a1 a2 a3 a4 a5 a6 => nx g' H1 locs1 ls1 c1 s1 hg' a1 a2 a3 a4 a5 a6)
    by_cases hc15 : sw = 15
    · refine lv_tableIn (off := 977) (tgt := 1036) hx hb d_Lw_law_59 (by rw [hc15]; decide) (by rw [hc15]; decide) (by rw [hc15]; rfl) rfl ?_
      obtain ⟨g', hf, hg'⟩ := lw_1036 (xs := xs) hs hn hn2 (by omega) him hLn hg
      exact w_Lw_case1036 hX hb0 hss hf hP hF hsc hl (by omega) (by omega) (fun H1 locs1 ls1 c1 s1 a1 a2 a3 a4 a5 a6 => nx g' H1 locs1 ls1 c1 s1 hg' a1 a2 a3 a4 a5 a6)
    by_cases hc16 : sw = 16
    · refine lv_tableIn (off := 1033) (tgt := 1092) hx hb d_Lw_law_59 (by rw [hc16]; decide) (by rw [hc16]; decide) (by rw [hc16]; rfl) rfl ?_
      obtain ⟨g', hf, hg'⟩ := lw_1092 (xs := xs) hs hn hn2 (by omega) him hLn hg
      exact w_Lw_case1092 hX hb0 hss hf hP hF hsc hl (by omega) (by omega) (fun H1 locs1 ls1 c1 s1 a1 a2 a3 a4 a5 a6 => nx g' H1 locs1 ls1 c1 s1 hg' a1 a2 a3 a4 a5 a6)
    by_cases hc17 : sw = 17
    · refine lv_tableIn (off := 1101) (tgt := 1160) hx hb d_Lw_law_59 (by rw [hc17]; decide) (by rw [hc17]; decide) (by rw [hc17]; rfl) rfl ?_
      obtain ⟨g', hf, hg'⟩ := lw_1160 (xs := xs) hs hn hn2 (by omega) him hLn hg
      exact w_Lw_case1160 hX hb0 hss hf hP hF hsc hl (by omega) (by omega) (fun H1 locs1 ls1 c1 s1 a1 a2 a3 a4 a5 a6 => nx g' H1 locs1 ls1 c1 s1 hg' a1 a2 a3 a4 a5 a6)
    by_cases hc18 : sw = 18
    · refine lv_tableIn (off := 1169) (tgt := 1228) hx hb d_Lw_law_59 (by rw [hc18]; decide) (by rw [hc18]; decide) (by rw [hc18]; rfl) rfl ?_
      obtain ⟨g', hf, hg'⟩ := lw_1228 (xs := xs) hs hn hn2 (by omega) him hLn hg
      exact w_Lw_case1228 hX hb0 hss hf hP hF hsc hl (by omega) (by omega) (fun H1 locs1 ls1 c1 s1 a1 a2 a3 a4 a5 a6 => nx g' H1 locs1 ls1 c1 s1 hg' a1 a2 a3 a4 a5 a6)
    by_cases hc19 : sw = 19
    · refine lv_tableIn (off := 1244) (tgt := 1303) hx hb d_Lw_law_59 (by rw [hc19]; decide) (by rw [hc19]; decide) (by rw [hc19]; rfl) rfl ?_
      obtain ⟨g', hf, hg'⟩ := lw_1303 (xs := xs) hs hn hn2 (by omega) him hLn hg
      exact w_Lw_case1303 hX hb0 hss hf hP hF hsc hl (by omega) (by omega) (fun H1 locs1 ls1 c1 s1 a1 a2 a3 a4 a5 a6 => nx g' H1 locs1 ls1 c1 s1 hg' a1 a2 a3 a4 a5 a6)
    refine lv_tableOut (tgt := 1316) hx hb d_Lw_law_59 (mm_out0_19 hc0 hc1 hc2 hc3 hc4 hc5 hc6 hc7 hc8 hc9 hc10 hc11 hc12 hc13 hc14 hc15 hc16 hc17 hc18 hc19) rfl ?_
    exact nx g _ _ _ _ _ (LS_up hg) hP hF hsc hl (by omega) (by omega)

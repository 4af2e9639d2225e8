def f_Lw_case152 (n : Nat) (xs : Nat → Int32) (Ln : Nat) (g : mm_M) (x4 : Int32) : Option mm_M :=
  mm_ix (x4 + 1) Ln (mm_ix (x4 + 2) Ln (mm_ob (f_Lw_copyAt n g 0 (xs (x4 + 1).toNatClampNeg) (xs (x4 + 2).toNatClampNeg)) (fun z1 g2 => mm_ix (x4 + 1) Ln (mm_ix (x4 + 2) Ln (mm_tc (f_Mo_copyAt n g2 0 (xs (x4 + 1).toNatClampNeg) (xs (x4 + 2).toNatClampNeg)) (fun z4 g5 => mm_tc (f_Mo_thrown n g5 0) (fun z7 g8 => (if z7 = z1 then some g8 else none)) (fun _ _ => none)) (fun _ _ => none))))))
set_option maxRecDepth 100000 in
set_option maxHeartbeats 4000000 in
theorem w_Lw_case152 {p : Program} {l : Launch} {e : Env} {R : Room} {s : State} {m : MethodId} {args : Array Value} {below : List Frame} {meth : Method} {c : Code} {L : mm_L} {hh : List (Nat × Nat × Nat × Nat)} {Q : State → Prop} {b Ln : Nat} {xs : Nat → Int32} {scr : Cell} {g g' : mm_M} {x4 : Int32} {H : Heap} {locs : List Loc} {ls : Array Slot} {cells slots : Nat} (hX : mm_Xh hh L code 7 "LoanArrowsLaw" (some .boolean) 11 392 p l R s m meth c) (hb0 : ¬ mm_F L b) (hss : mm_scr s scr Ln xs) (h : f_Lw_case152 L.1 xs Ln g x4 = some g') (hP : mm_P L g H) (hF : ∀ q ∈ locs, mm_F L q.base) (hsc : H[b]? = some scr) (hl : lv_has ls 7 [(0, .ref b), (1, .ref (L.2.1 0 0)), (2, .ref (L.2.1 20 0)), (3, .ref (L.2.1 50 0)), (4, .int x4)]) (hcA : cells + 2 ≤ R.cells) (hsA : slots + 12 ≤ R.slots)
    (kk : ∀ (H1 : Heap) (locs1 : List Loc) (ls1 : Array Slot) (cells1 slots1 : Nat), mm_P L g' H1 → (∀ q ∈ locs1, mm_F L q.base) → H1[b]? = some scr → lv_has ls1 7 [(0, .ref b), (1, .ref (L.2.1 0 0)), (2, .ref (L.2.1 20 0)), (3, .ref (L.2.1 50 0)), (4, .int x4)] → cells1 ≤ cells + 1 → slots1 ≤ slots + 6 → W p l e R s m args below meth c H1 locs1 cells1 slots1 Q (F0 m 1316 ls1 [])) : W p l e R s m args below meth c H locs cells slots Q (F0 m 152 ls []) := by
  have hX0 := hX
  obtain ⟨hx, hb, hml, hown, hr, hlk, hex, hRf, hRl, hRc, hRs, hJ, hK, hst, h00⟩ := hX0
  unfold f_Lw_case152 at h
  refine lv_aload_n hx hb d_Lw_law_152 rfl (lv_at hl 1 rfl) ?_
  refine lv_aload_n hx hb d_Lw_law_153 rfl (lv_at hl 0 rfl) ?_
  refine lv_iload hx hb d_Lw_law_154 (lv_at hl 4 rfl) ?_
  refine lv_iconst (v := 1) hx hb d_Lw_law_156 (by decide) ?_
  refine lv_iadd hx hb d_Lw_law_157 ?_
  obtain ⟨hin, h⟩ := mm_ix_some h
  refine mm_sld hX hsc hss hin d_Lw_law_158 ?_
  refine lv_aload_n hx hb d_Lw_law_159 rfl (lv_at hl 0 rfl) ?_
  refine lv_iload hx hb d_Lw_law_160 (lv_at hl 4 rfl) ?_
  refine lv_iconst (v := 2) hx hb d_Lw_law_162 (by decide) ?_
  refine lv_iadd hx hb d_Lw_law_163 ?_
  obtain ⟨hin, h⟩ := mm_ix_some h
  refine mm_sld hX hsc hss hin d_Lw_law_164 ?_
  obtain ⟨⟨z1, g2⟩, hf3, h⟩ := mm_ob_some h
  refine mm_goS1 (As := [.ref (L.2.1 0 0), .int (xs (x4 + 1).toNatClampNeg), .int (xs (x4 + 2).toNatClampNeg)]) (rest := []) hX (c_Lw_copyAt mm_ls0 hf3) wt_196 (by decide +kernel) ⟨by decide +kernel, by decide +kernel⟩ (by show (parseMethodDescriptor (y_Lw_copyAt).desc).map (fun d => d.parameters.length) = some 3; decide +kernel) wt_194 wt_195 wt_0 hP hF rfl hl.1 (Nat.le_of_ble_eq_true rfl) (by decide) (by decide) (by omega) (by omega) d_Lw_law_165 (fun H locs hP hF hO => ?_)
  have hsc := hO b scr hb0 hsc
  refine lv_istore hx hb d_Lw_law_168 hl (Nat.lt_of_lt_of_le (Nat.lt_succ_self _) (Nat.le_of_ble_eq_true rfl)) rfl (fun ls hl => ?_)
  have hl : lv_has ls 7 [(5, .int z1), (0, .ref b), (1, .ref (L.2.1 0 0)), (2, .ref (L.2.1 20 0)), (3, .ref (L.2.1 50 0)), (4, .int x4)] := hl
  refine lv_aload_n hx hb d_Lw_law_170 rfl (lv_at hl 3 rfl) ?_
  refine lv_aload_n hx hb d_Lw_law_171 rfl (lv_at hl 1 rfl) ?_
  refine lv_iload hx hb d_Lw_law_172 (lv_at hl 5 rfl) ?_
  refine lv_iconst (v := 1) hx hb d_Lw_law_174 (by decide) ?_
  refine lv_iadd hx hb d_Lw_law_175 ?_
  obtain ⟨hin, h⟩ := mm_ix_some h
  refine mm_sld hX hsc hss hin d_Lw_law_176 ?_
  refine lv_aload_n hx hb d_Lw_law_177 rfl (lv_at hl 1 rfl) ?_
  refine lv_iload hx hb d_Lw_law_178 (lv_at hl 5 rfl) ?_
  refine lv_iconst (v := 2) hx hb d_Lw_law_180 (by decide) ?_
  refine lv_iadd hx hb d_Lw_law_181 ?_
  obtain ⟨hin, h⟩ := mm_ix_some h
  refine mm_sld hX hsc hss hin d_Lw_law_182 ?_
  rcases mm_tc_some h with ⟨z4, g5, hf6, h⟩ | ⟨xe, z4, g5, hf6, h⟩
  · refine mm_goR (v := none) (mm_goV (As := [.int (xs (x4 + 1).toNatClampNeg), .int (xs (x4 + 2).toNatClampNeg)]) (rest := []) hX (c_Mo_copyAt mm_ls20 hf6) yw_Mo_copyAt wt_698 wt_699 wt_700 hP hF (mm_recv (h := 20) (i := 0) hX hP mm_ls20 rfl rfl) rfl hl.1 (Nat.le_of_ble_eq_true rfl) (by decide) (by decide) (by omega) (by omega) d_Lw_law_183) hF (fun H locs hP hF hO => ?_)
    have hsc := hO b scr hb0 hsc
    refine lv_aload_n hx hb d_Lw_law_186 rfl (lv_at hl 3 rfl) ?_
    rcases mm_tc_some h with ⟨z7, g8, hf9, h⟩ | ⟨xe, z7, g8, hf9, h⟩
    · refine mm_goR (v := (some (.int z7))) (mm_goV (As := []) (rest := []) hX (c_Mo_thrown mm_ls20 hf9) yw_Mo_thrown wt_694 wt_695 wt_696 hP hF (mm_recv (h := 20) (i := 0) hX hP mm_ls20 rfl rfl) rfl hl.1 (Nat.le_of_ble_eq_true rfl) (by decide) (by decide) (by omega) (by omega) d_Lw_law_187) hF (fun H locs hP hF hO => ?_)
      have hsc := hO b scr hb0 hsc
      refine lv_iload hx hb d_Lw_law_190 (lv_at hl 0 rfl) ?_
      refine lv_icmp_eq (tgt := 197) hx hb d_Lw_law_192 rfl (fun hc => ?_) (fun hc => ?_)
      · have h := mm_pos hc h
        refine lv_goto (tgt := 1316) hx hb d_Lw_law_197 rfl ?_
        cases h
        exact kk _ _ _ _ _ hP hF hsc (lv_sub (l' := [(0, .ref b), (1, .ref (L.2.1 0 0)), (2, .ref (L.2.1 20 0)), (3, .ref (L.2.1 50 0)), (4, .int x4)]) hl [1, 2, 3, 4, 5] rfl) (by omega) (by omega)
      · have h := mm_neg hc h
        refine lv_iconst (v := 0) hx hb d_Lw_law_195 (by decide) ?_
        cases h
    · cases h
  · cases h
def f_Lw_case200 (n : Nat) (xs : Nat → Int32) (Ln : Nat) (g : mm_M) (x4 : Int32) : Option mm_M :=
  mm_ix (x4 + 1) Ln (mm_ix (x4 + 2) Ln (mm_ix (x4 + 3) Ln (mm_ob (f_Lw_want n g 0 (xs (x4 + 1).toNatClampNeg) (xs (x4 + 2).toNatClampNeg) (xs (x4 + 3).toNatClampNeg) 0) (fun z1 g2 => mm_ix (x4 + 1) Ln (mm_ix (x4 + 2) Ln (mm_ix (x4 + 3) Ln (mm_tc (f_Mo_want n g2 0 (xs (x4 + 1).toNatClampNeg) (xs (x4 + 2).toNatClampNeg) (xs (x4 + 3).toNatClampNeg)) (fun z4 g5 => mm_tc (f_Mo_thrown n g5 0) (fun z7 g8 => (if z7 = z1 then (if z1 = 0 then (if (lg_cmp (Int32.toInt64 (g8 50 0 0)) (Int32.toInt64 z4)) = 0 then some g8 else none) else some g8) else none)) (fun _ _ => none)) (fun _ _ => none))))))))
set_option maxRecDepth 100000 in
set_option maxHeartbeats 4000000 in
theorem w_Lw_case200 {p : Program} {l : Launch} {e : Env} {R : Room} {s : State} {m : MethodId} {args : Array Value} {below : List Frame} {meth : Method} {c : Code} {L : mm_L} {hh : List (Nat × Nat × Nat × Nat)} {Q : State → Prop} {b Ln : Nat} {xs : Nat → Int32} {scr : Cell} {g g' : mm_M} {x4 : Int32} {H : Heap} {locs : List Loc} {ls : Array Slot} {cells slots : Nat} (hX : mm_Xh hh L code 7 "LoanArrowsLaw" (some .boolean) 11 392 p l R s m meth c) (hb0 : ¬ mm_F L b) (hss : mm_scr s scr Ln xs) (h : f_Lw_case200 L.1 xs Ln g x4 = some g') (hP : mm_P L g H) (hF : ∀ q ∈ locs, mm_F L q.base) (hsc : H[b]? = some scr) (hl : lv_has ls 7 [(0, .ref b), (1, .ref (L.2.1 0 0)), (2, .ref (L.2.1 20 0)), (3, .ref (L.2.1 50 0)), (4, .int x4)]) (hcA : cells + 2 ≤ R.cells) (hsA : slots + 12 ≤ R.slots)
    (kk : ∀ (H1 : Heap) (locs1 : List Loc) (ls1 : Array Slot) (cells1 slots1 : Nat), mm_P L g' H1 → (∀ q ∈ locs1, mm_F L q.base) → H1[b]? = some scr → lv_has ls1 7 [(0, .ref b), (1, .ref (L.2.1 0 0)), (2, .ref (L.2.1 20 0)), (3, .ref (L.2.1 50 0)), (4, .int x4)] → cells1 ≤ cells + 1 → slots1 ≤ slots + 6 → W p l e R s m args below meth c H1 locs1 cells1 slots1 Q (F0 m 1316 ls1 [])) : W p l e R s m args below meth c H locs cells slots Q (F0 m 200 ls []) := by
  have hX0 := hX
  obtain ⟨hx, hb, hml, hown, hr, hlk, hex, hRf, hRl, hRc, hRs, hJ, hK, hst, h00⟩ := hX0
  unfold f_Lw_case200 at h
  refine lv_aload_n hx hb d_Lw_law_200 rfl (lv_at hl 1 rfl) ?_
  refine lv_aload_n hx hb d_Lw_law_201 rfl (lv_at hl 0 rfl) ?_
  refine lv_iload hx hb d_Lw_law_202 (lv_at hl 4 rfl) ?_
  refine lv_iconst (v := 1) hx hb d_Lw_law_204 (by decide) ?_
  refine lv_iadd hx hb d_Lw_law_205 ?_
  obtain ⟨hin, h⟩ := mm_ix_some h
  refine mm_sld hX hsc hss hin d_Lw_law_206 ?_
  refine lv_aload_n hx hb d_Lw_law_207 rfl (lv_at hl 0 rfl) ?_
  refine lv_iload hx hb d_Lw_law_208 (lv_at hl 4 rfl) ?_
  refine lv_iconst (v := 2) hx hb d_Lw_law_210 (by decide) ?_
  refine lv_iadd hx hb d_Lw_law_211 ?_
  obtain ⟨hin, h⟩ := mm_ix_some h
  refine mm_sld hX hsc hss hin d_Lw_law_212 ?_
  refine lv_aload_n hx hb d_Lw_law_213 rfl (lv_at hl 0 rfl) ?_
  refine lv_iload hx hb d_Lw_law_214 (lv_at hl 4 rfl) ?_
  refine lv_iconst (v := 3) hx hb d_Lw_law_216 (by decide) ?_
  refine lv_iadd hx hb d_Lw_law_217 ?_
  obtain ⟨hin, h⟩ := mm_ix_some h
  refine mm_sld hX hsc hss hin d_Lw_law_218 ?_
  refine lv_aload_n hx hb d_Lw_law_219 rfl (lv_at hl 3 rfl) ?_
  obtain ⟨⟨z1, g2⟩, hf3, h⟩ := mm_ob_some h
  refine mm_goS1 (As := [.ref (L.2.1 0 0), .int (xs (x4 + 1).toNatClampNeg), .int (xs (x4 + 2).toNatClampNeg), .int (xs (x4 + 3).toNatClampNeg), .ref (L.2.1 50 0)]) (rest := []) hX (c_Lw_want mm_ls0 mm_ls50 hf3) wt_310 (by decide +kernel) ⟨by decide +kernel, by decide +kernel⟩ (by show (parseMethodDescriptor (y_Lw_want).desc).map (fun d => d.parameters.length) = some 5; decide +kernel) wt_308 wt_309 wt_0 hP hF rfl hl.1 (Nat.le_of_ble_eq_true rfl) (by decide) (by decide) (by omega) (by omega) d_Lw_law_220 (fun H locs hP hF hO => ?_)
  have hsc := hO b scr hb0 hsc
  refine lv_istore hx hb d_Lw_law_223 hl (Nat.lt_of_lt_of_le (Nat.lt_succ_self _) (Nat.le_of_ble_eq_true rfl)) rfl (fun ls hl => ?_)
  have hl : lv_has ls 7 [(5, .int z1), (0, .ref b), (1, .ref (L.2.1 0 0)), (2, .ref (L.2.1 20 0)), (3, .ref (L.2.1 50 0)), (4, .int x4)] := hl
  refine lv_aload_n hx hb d_Lw_law_225 rfl (lv_at hl 3 rfl) ?_
  refine lv_aload_n hx hb d_Lw_law_226 rfl (lv_at hl 1 rfl) ?_
  refine lv_iload hx hb d_Lw_law_227 (lv_at hl 5 rfl) ?_
  refine lv_iconst (v := 1) hx hb d_Lw_law_229 (by decide) ?_
  refine lv_iadd hx hb d_Lw_law_230 ?_
  obtain ⟨hin, h⟩ := mm_ix_some h
  refine mm_sld hX hsc hss hin d_Lw_law_231 ?_
  refine lv_aload_n hx hb d_Lw_law_232 rfl (lv_at hl 1 rfl) ?_
  refine lv_iload hx hb d_Lw_law_233 (lv_at hl 5 rfl) ?_
  refine lv_iconst (v := 2) hx hb d_Lw_law_235 (by decide) ?_
  refine lv_iadd hx hb d_Lw_law_236 ?_
  obtain ⟨hin, h⟩ := mm_ix_some h
  refine mm_sld hX hsc hss hin d_Lw_law_237 ?_
  refine lv_aload_n hx hb d_Lw_law_238 rfl (lv_at hl 1 rfl) ?_
  refine lv_iload hx hb d_Lw_law_239 (lv_at hl 5 rfl) ?_
  refine lv_iconst (v := 3) hx hb d_Lw_law_241 (by decide) ?_
  refine lv_iadd hx hb d_Lw_law_242 ?_
  obtain ⟨hin, h⟩ := mm_ix_some h
  refine mm_sld hX hsc hss hin d_Lw_law_243 ?_
  rcases mm_tc_some h with ⟨z4, g5, hf6, h⟩ | ⟨xe, z4, g5, hf6, h⟩
  · refine mm_goR (v := (some (.int z4))) (mm_goV (As := [.int (xs (x4 + 1).toNatClampNeg), .int (xs (x4 + 2).toNatClampNeg), .int (xs (x4 + 3).toNatClampNeg)]) (rest := []) hX (c_Mo_want mm_ls20 hf6) yw_Mo_want wt_728 wt_729 wt_730 hP hF (mm_recv (h := 20) (i := 0) hX hP mm_ls20 rfl rfl) rfl hl.1 (Nat.le_of_ble_eq_true rfl) (by decide) (by decide) (by omega) (by omega) d_Lw_law_244) hF (fun H locs hP hF hO => ?_)
    have hsc := hO b scr hb0 hsc
    refine lv_istore hx hb d_Lw_law_247 hl (Nat.lt_of_lt_of_le (Nat.lt_succ_self _) (Nat.le_of_ble_eq_true rfl)) rfl (fun ls hl => ?_)
    have hl : lv_has ls 7 [(6, .int z4), (5, .int z1), (0, .ref b), (1, .ref (L.2.1 0 0)), (2, .ref (L.2.1 20 0)), (3, .ref (L.2.1 50 0)), (4, .int x4)] := hl
    refine lv_aload_n hx hb d_Lw_law_249 rfl (lv_at hl 4 rfl) ?_
    rcases mm_tc_some h with ⟨z7, g8, hf9, h⟩ | ⟨xe, z7, g8, hf9, h⟩
    · refine mm_goR (v := (some (.int z7))) (mm_goV (As := []) (rest := []) hX (c_Mo_thrown mm_ls20 hf9) yw_Mo_thrown wt_694 wt_695 wt_696 hP hF (mm_recv (h := 20) (i := 0) hX hP mm_ls20 rfl rfl) rfl hl.1 (Nat.le_of_ble_eq_true rfl) (by decide) (by decide) (by omega) (by omega) d_Lw_law_250) hF (fun H locs hP hF hO => ?_)
      have hsc := hO b scr hb0 hsc
      refine lv_iload hx hb d_Lw_law_253 (lv_at hl 1 rfl) ?_
      refine lv_icmp_eq (tgt := 260) hx hb d_Lw_law_255 rfl (fun hc => ?_) (fun hc => ?_)
      · have h := mm_pos hc h
        refine lv_iload hx hb d_Lw_law_260 (lv_at hl 1 rfl) ?_
        refine lv_if_ne (tgt := 277) hx hb d_Lw_law_262 rfl (fun hc => ?_) (fun hc => ?_)
        · have h := mm_neg hc h
          refine lv_goto (tgt := 1316) hx hb d_Lw_law_277 rfl ?_
          cases h
          exact kk _ _ _ _ _ hP hF hsc (lv_sub (l' := [(0, .ref b), (1, .ref (L.2.1 0 0)), (2, .ref (L.2.1 20 0)), (3, .ref (L.2.1 50 0)), (4, .int x4)]) hl [2, 3, 4, 5, 6] rfl) (by omega) (by omega)
        · have h := mm_pos hc h
          refine lv_aload_n hx hb d_Lw_law_265 rfl (lv_at hl 5 rfl) ?_
          refine lv_iconst (v := 0) hx hb d_Lw_law_266 (by decide) ?_
          refine mm_lald hX hP d_Lw_law_267 ?_
          refine lv_iload hx hb d_Lw_law_268 (lv_at hl 0 rfl) ?_
          refine lv_i2l hx hb d_Lw_law_270 rfl ?_
          refine W.lcmp hx hb d_Lw_law_271 ?_
          refine lv_if_eq (tgt := 277) hx hb d_Lw_law_272 rfl (fun hc => ?_) (fun hc => ?_)
          · have h := mm_pos hc h
            refine lv_goto (tgt := 1316) hx hb d_Lw_law_277 rfl ?_
            cases h
            exact kk _ _ _ _ _ hP hF hsc (lv_sub (l' := [(0, .ref b), (1, .ref (L.2.1 0 0)), (2, .ref (L.2.1 20 0)), (3, .ref (L.2.1 50 0)), (4, .int x4)]) hl [2, 3, 4, 5, 6] rfl) (by omega) (by omega)
          · have h := mm_neg hc h
            refine lv_iconst (v := 0) hx hb d_Lw_law_275 (by decide) ?_
            cases h
      · have h := mm_neg hc h
        refine lv_iconst (v := 0) hx hb d_Lw_law_258 (by decide) ?_
        cases h
    · cases h
  · cases h
def f_Lw_case280 (n : Nat) (xs : Nat → Int32) (Ln : Nat) (g : mm_M) (x4 : Int32) : Option mm_M :=
  mm_ix (x4 + 1) Ln (mm_ix (x4 + 2) Ln (mm_ob (f_Lw_lend n g 0 (xs (x4 + 1).toNatClampNeg) (xs (x4 + 2).toNatClampNeg) 0) (fun z1 g2 => mm_ix (x4 + 1) Ln (mm_ix (x4 + 2) Ln (mm_tc (f_Mo_lend n g2 0 (xs (x4 + 1).toNatClampNeg) (xs (x4 + 2).toNatClampNeg)) (fun z4 g5 => mm_tc (f_Mo_thrown n g5 0) (fun z7 g8 => (if z7 = z1 then (if z1 = 0 then (if (lg_cmp (Int32.toInt64 (g8 50 0 0)) (Int32.toInt64 z4)) = 0 then some g8 else none) else some g8) else none)) (fun _ _ => none)) (fun _ _ => none))))))
set_option maxRecDepth 100000 in
set_option maxHeartbeats 4000000 in
theorem w_Lw_case280 {p : Program} {l : Launch} {e : Env} {R : Room} {s : State} {m : MethodId} {args : Array Value} {below : List Frame} {meth : Method} {c : Code} {L : mm_L} {hh : List (Nat × Nat × Nat × Nat)} {Q : State → Prop} {b Ln : Nat} {xs : Nat → Int32} {scr : Cell} {g g' : mm_M} {x4 : Int32} {H : Heap} {locs : List Loc} {ls : Array Slot} {cells slots : Nat} (hX : mm_Xh hh L code 7 "LoanArrowsLaw" (some .boolean) 11 392 p l R s m meth c) (hb0 : ¬ mm_F L b) (hss : mm_scr s scr Ln xs) (h : f_Lw_case280 L.1 xs Ln g x4 = some g') (hP : mm_P L g H) (hF : ∀ q ∈ locs, mm_F L q.base) (hsc : H[b]? = some scr) (hl : lv_has ls 7 [(0, .ref b), (1, .ref (L.2.1 0 0)), (2, .ref (L.2.1 20 0)), (3, .ref (L.2.1 50 0)), (4, .int x4)]) (hcA : cells + 2 ≤ R.cells) (hsA : slots + 12 ≤ R.slots)
    (kk : ∀ (H1 : Heap) (locs1 : List Loc) (ls1 : Array Slot) (cells1 slots1 : Nat), mm_P L g' H1 → (∀ q ∈ locs1, mm_F L q.base) → H1[b]? = some scr → lv_has ls1 7 [(0, .ref b), (1, .ref (L.2.1 0 0)), (2, .ref (L.2.1 20 0)), (3, .ref (L.2.1 50 0)), (4, .int x4)] → cells1 ≤ cells + 1 → slots1 ≤ slots + 6 → W p l e R s m args below meth c H1 locs1 cells1 slots1 Q (F0 m 1316 ls1 [])) : W p l e R s m args below meth c H locs cells slots Q (F0 m 280 ls []) := by
  have hX0 := hX
  obtain ⟨hx, hb, hml, hown, hr, hlk, hex, hRf, hRl, hRc, hRs, hJ, hK, hst, h00⟩ := hX0
  unfold f_Lw_case280 at h
  refine lv_aload_n hx hb d_Lw_law_280 rfl (lv_at hl 1 rfl) ?_
  refine lv_aload_n hx hb d_Lw_law_281 rfl (lv_at hl 0 rfl) ?_
  refine lv_iload hx hb d_Lw_law_282 (lv_at hl 4 rfl) ?_
  refine lv_iconst (v := 1) hx hb d_Lw_law_284 (by decide) ?_
  refine lv_iadd hx hb d_Lw_law_285 ?_
  obtain ⟨hin, h⟩ := mm_ix_some h
  refine mm_sld hX hsc hss hin d_Lw_law_286 ?_
  refine lv_aload_n hx hb d_Lw_law_287 rfl (lv_at hl 0 rfl) ?_
  refine lv_iload hx hb d_Lw_law_288 (lv_at hl 4 rfl) ?_
  refine lv_iconst (v := 2) hx hb d_Lw_law_290 (by decide) ?_
  refine lv_iadd hx hb d_Lw_law_291 ?_
  obtain ⟨hin, h⟩ := mm_ix_some h
  refine mm_sld hX hsc hss hin d_Lw_law_292 ?_
  refine lv_aload_n hx hb d_Lw_law_293 rfl (lv_at hl 3 rfl) ?_
  obtain ⟨⟨z1, g2⟩, hf3, h⟩ := mm_ob_some h
  refine mm_goS1 (As := [.ref (L.2.1 0 0), .int (xs (x4 + 1).toNatClampNeg), .int (xs (x4 + 2).toNatClampNeg), .ref (L.2.1 50 0)]) (rest := []) hX (c_Lw_lend mm_ls0 mm_ls50 hf3) wt_393 (by decide +kernel) ⟨by decide +kernel, by decide +kernel⟩ (by show (parseMethodDescriptor (y_Lw_lend).desc).map (fun d => d.parameters.length) = some 4; decide +kernel) wt_391 wt_392 wt_0 hP hF rfl hl.1 (Nat.le_of_ble_eq_true rfl) (by decide) (by decide) (by omega) (by omega) d_Lw_law_294 (fun H locs hP hF hO => ?_)
  have hsc := hO b scr hb0 hsc
  refine lv_istore hx hb d_Lw_law_297 hl (Nat.lt_of_lt_of_le (Nat.lt_succ_self _) (Nat.le_of_ble_eq_true rfl)) rfl (fun ls hl => ?_)
  have hl : lv_has ls 7 [(5, .int z1), (0, .ref b), (1, .ref (L.2.1 0 0)), (2, .ref (L.2.1 20 0)), (3, .ref (L.2.1 50 0)), (4, .int x4)] := hl
  refine lv_aload_n hx hb d_Lw_law_299 rfl (lv_at hl 3 rfl) ?_
  refine lv_aload_n hx hb d_Lw_law_300 rfl (lv_at hl 1 rfl) ?_
  refine lv_iload hx hb d_Lw_law_301 (lv_at hl 5 rfl) ?_
  refine lv_iconst (v := 1) hx hb d_Lw_law_303 (by decide) ?_
  refine lv_iadd hx hb d_Lw_law_304 ?_
  obtain ⟨hin, h⟩ := mm_ix_some h
  refine mm_sld hX hsc hss hin d_Lw_law_305 ?_
  refine lv_aload_n hx hb d_Lw_law_306 rfl (lv_at hl 1 rfl) ?_
  refine lv_iload hx hb d_Lw_law_307 (lv_at hl 5 rfl) ?_
  refine lv_iconst (v := 2) hx hb d_Lw_law_309 (by decide) ?_
  refine lv_iadd hx hb d_Lw_law_310 ?_
  obtain ⟨hin, h⟩ := mm_ix_some h
  refine mm_sld hX hsc hss hin d_Lw_law_311 ?_
  rcases mm_tc_some h with ⟨z4, g5, hf6, h⟩ | ⟨xe, z4, g5, hf6, h⟩
  · refine mm_goR (v := (some (.int z4))) (mm_goV (As := [.int (xs (x4 + 1).toNatClampNeg), .int (xs (x4 + 2).toNatClampNeg)]) (rest := []) hX (c_Mo_lend mm_ls20 hf6) yw_Mo_lend wt_756 wt_757 wt_758 hP hF (mm_recv (h := 20) (i := 0) hX hP mm_ls20 rfl rfl) rfl hl.1 (Nat.le_of_ble_eq_true rfl) (by decide) (by decide) (by omega) (by omega) d_Lw_law_312) hF (fun H locs hP hF hO => ?_)
    have hsc := hO b scr hb0 hsc
    refine lv_istore hx hb d_Lw_law_315 hl (Nat.lt_of_lt_of_le (Nat.lt_succ_self _) (Nat.le_of_ble_eq_true rfl)) rfl (fun ls hl => ?_)
    have hl : lv_has ls 7 [(6, .int z4), (5, .int z1), (0, .ref b), (1, .ref (L.2.1 0 0)), (2, .ref (L.2.1 20 0)), (3, .ref (L.2.1 50 0)), (4, .int x4)] := hl
    refine lv_aload_n hx hb d_Lw_law_317 rfl (lv_at hl 4 rfl) ?_
    rcases mm_tc_some h with ⟨z7, g8, hf9, h⟩ | ⟨xe, z7, g8, hf9, h⟩
    · refine mm_goR (v := (some (.int z7))) (mm_goV (As := []) (rest := []) hX (c_Mo_thrown mm_ls20 hf9) yw_Mo_thrown wt_694 wt_695 wt_696 hP hF (mm_recv (h := 20) (i := 0) hX hP mm_ls20 rfl rfl) rfl hl.1 (Nat.le_of_ble_eq_true rfl) (by decide) (by decide) (by omega) (by omega) d_Lw_law_318) hF (fun H locs hP hF hO => ?_)
      have hsc := hO b scr hb0 hsc
      refine lv_iload hx hb d_Lw_law_321 (lv_at hl 1 rfl) ?_
      refine lv_icmp_eq (tgt := 328) hx hb d_Lw_law_323 rfl (fun hc => ?_) (fun hc => ?_)
      · have h := mm_pos hc h
        refine lv_iload hx hb d_Lw_law_328 (lv_at hl 1 rfl) ?_
        refine lv_if_ne (tgt := 345) hx hb d_Lw_law_330 rfl (fun hc => ?_) (fun hc => ?_)
        · have h := mm_neg hc h
          refine lv_goto (tgt := 1316) hx hb d_Lw_law_345 rfl ?_
          cases h
          exact kk _ _ _ _ _ hP hF hsc (lv_sub (l' := [(0, .ref b), (1, .ref (L.2.1 0 0)), (2, .ref (L.2.1 20 0)), (3, .ref (L.2.1 50 0)), (4, .int x4)]) hl [2, 3, 4, 5, 6] rfl) (by omega) (by omega)
        · have h := mm_pos hc h
          refine lv_aload_n hx hb d_Lw_law_333 rfl (lv_at hl 5 rfl) ?_
          refine lv_iconst (v := 0) hx hb d_Lw_law_334 (by decide) ?_
          refine mm_lald hX hP d_Lw_law_335 ?_
          refine lv_iload hx hb d_Lw_law_336 (lv_at hl 0 rfl) ?_
          refine lv_i2l hx hb d_Lw_law_338 rfl ?_
          refine W.lcmp hx hb d_Lw_law_339 ?_
          refine lv_if_eq (tgt := 345) hx hb d_Lw_law_340 rfl (fun hc => ?_) (fun hc => ?_)
          · have h := mm_pos hc h
            refine lv_goto (tgt := 1316) hx hb d_Lw_law_345 rfl ?_
            cases h
            exact kk _ _ _ _ _ hP hF hsc (lv_sub (l' := [(0, .ref b), (1, .ref (L.2.1 0 0)), (2, .ref (L.2.1 20 0)), (3, .ref (L.2.1 50 0)), (4, .int x4)]) hl [2, 3, 4, 5, 6] rfl) (by omega) (by omega)
          · have h := mm_neg hc h
            refine lv_iconst (v := 0) hx hb d_Lw_law_343 (by decide) ?_
            cases h
      · have h := mm_neg hc h
        refine lv_iconst (v := 0) hx hb d_Lw_law_326 (by decide) ?_
        cases h
    · cases h
  · cases h
def f_Lw_case348 (n : Nat) (xs : Nat → Int32) (Ln : Nat) (g : mm_M) (x4 : Int32) : Option mm_M :=
  mm_ix (x4 + 1) Ln (mm_ix (x4 + 2) Ln (mm_ob (f_Lw_giveBack n g 0 (xs (x4 + 1).toNatClampNeg) (xs (x4 + 2).toNatClampNeg) 0) (fun z1 g2 => mm_ix (x4 + 1) Ln (mm_ix (x4 + 2) Ln (mm_tc (f_Mo_giveBack n g2 0 (xs (x4 + 1).toNatClampNeg) (xs (x4 + 2).toNatClampNeg)) (fun z4 g5 => mm_tc (f_Mo_thrown n g5 0) (fun z7 g8 => (if z7 = z1 then (if z1 = 0 then (if (lg_cmp (Int32.toInt64 (g8 50 0 0)) (Int32.toInt64 z4)) = 0 then some g8 else none) else some g8) else none)) (fun _ _ => none)) (fun _ _ => none))))))
set_option maxRecDepth 100000 in
set_option maxHeartbeats 4000000 in
theorem w_Lw_case348 {p : Program} {l : Launch} {e : Env} {R : Room} {s : State} {m : MethodId} {args : Array Value} {below : List Frame} {meth : Method} {c : Code} {L : mm_L} {hh : List (Nat × Nat × Nat × Nat)} {Q : State → Prop} {b Ln : Nat} {xs : Nat → Int32} {scr : Cell} {g g' : mm_M} {x4 : Int32} {H : Heap} {locs : List Loc} {ls : Array Slot} {cells slots : Nat} (hX : mm_Xh hh L code 7 "LoanArrowsLaw" (some .boolean) 11 392 p l R s m meth c) (hb0 : ¬ mm_F L b) (hss : mm_scr s scr Ln xs) (h : f_Lw_case348 L.1 xs Ln g x4 = some g') (hP : mm_P L g H) (hF : ∀ q ∈ locs, mm_F L q.base) (hsc : H[b]? = some scr) (hl : lv_has ls 7 [(0, .ref b), (1, .ref (L.2.1 0 0)), (2, .ref (L.2.1 20 0)), (3, .ref (L.2.1 50 0)), (4, .int x4)]) (hcA : cells + 2 ≤ R.cells) (hsA : slots + 12 ≤ R.slots)
    (kk : ∀ (H1 : Heap) (locs1 : List Loc) (ls1 : Array Slot) (cells1 slots1 : Nat), mm_P L g' H1 → (∀ q ∈ locs1, mm_F L q.base) → H1[b]? = some scr → lv_has ls1 7 [(0, .ref b), (1, .ref (L.2.1 0 0)), (2, .ref (L.2.1 20 0)), (3, .ref (L.2.1 50 0)), (4, .int x4)] → cells1 ≤ cells + 1 → slots1 ≤ slots + 6 → W p l e R s m args below meth c H1 locs1 cells1 slots1 Q (F0 m 1316 ls1 [])) : W p l e R s m args below meth c H locs cells slots Q (F0 m 348 ls []) := by
  have hX0 := hX
  obtain ⟨hx, hb, hml, hown, hr, hlk, hex, hRf, hRl, hRc, hRs, hJ, hK, hst, h00⟩ := hX0
  unfold f_Lw_case348 at h
  refine lv_aload_n hx hb d_Lw_law_348 rfl (lv_at hl 1 rfl) ?_
  refine lv_aload_n hx hb d_Lw_law_349 rfl (lv_at hl 0 rfl) ?_
  refine lv_iload hx hb d_Lw_law_350 (lv_at hl 4 rfl) ?_
  refine lv_iconst (v := 1) hx hb d_Lw_law_352 (by decide) ?_
  refine lv_iadd hx hb d_Lw_law_353 ?_
  obtain ⟨hin, h⟩ := mm_ix_some h
  refine mm_sld hX hsc hss hin d_Lw_law_354 ?_
  refine lv_aload_n hx hb d_Lw_law_355 rfl (lv_at hl 0 rfl) ?_
  refine lv_iload hx hb d_Lw_law_356 (lv_at hl 4 rfl) ?_
  refine lv_iconst (v := 2) hx hb d_Lw_law_358 (by decide) ?_
  refine lv_iadd hx hb d_Lw_law_359 ?_
  obtain ⟨hin, h⟩ := mm_ix_some h
  refine mm_sld hX hsc hss hin d_Lw_law_360 ?_
  refine lv_aload_n hx hb d_Lw_law_361 rfl (lv_at hl 3 rfl) ?_
  obtain ⟨⟨z1, g2⟩, hf3, h⟩ := mm_ob_some h
  refine mm_goS1 (As := [.ref (L.2.1 0 0), .int (xs (x4 + 1).toNatClampNeg), .int (xs (x4 + 2).toNatClampNeg), .ref (L.2.1 50 0)]) (rest := []) hX (c_Lw_giveBack mm_ls0 mm_ls50 hf3) wt_415 (by decide +kernel) ⟨by decide +kernel, by decide +kernel⟩ (by show (parseMethodDescriptor (y_Lw_giveBack).desc).map (fun d => d.parameters.length) = some 4; decide +kernel) wt_413 wt_414 wt_0 hP hF rfl hl.1 (Nat.le_of_ble_eq_true rfl) (by decide) (by decide) (by omega) (by omega) d_Lw_law_362 (fun H locs hP hF hO => ?_)
  have hsc := hO b scr hb0 hsc
  refine lv_istore hx hb d_Lw_law_365 hl (Nat.lt_of_lt_of_le (Nat.lt_succ_self _) (Nat.le_of_ble_eq_true rfl)) rfl (fun ls hl => ?_)
  have hl : lv_has ls 7 [(5, .int z1), (0, .ref b), (1, .ref (L.2.1 0 0)), (2, .ref (L.2.1 20 0)), (3, .ref (L.2.1 50 0)), (4, .int x4)] := hl
  refine lv_aload_n hx hb d_Lw_law_367 rfl (lv_at hl 3 rfl) ?_
  refine lv_aload_n hx hb d_Lw_law_368 rfl (lv_at hl 1 rfl) ?_
  refine lv_iload hx hb d_Lw_law_369 (lv_at hl 5 rfl) ?_
  refine lv_iconst (v := 1) hx hb d_Lw_law_371 (by decide) ?_
  refine lv_iadd hx hb d_Lw_law_372 ?_
  obtain ⟨hin, h⟩ := mm_ix_some h
  refine mm_sld hX hsc hss hin d_Lw_law_373 ?_
  refine lv_aload_n hx hb d_Lw_law_374 rfl (lv_at hl 1 rfl) ?_
  refine lv_iload hx hb d_Lw_law_375 (lv_at hl 5 rfl) ?_
  refine lv_iconst (v := 2) hx hb d_Lw_law_377 (by decide) ?_
  refine lv_iadd hx hb d_Lw_law_378 ?_
  obtain ⟨hin, h⟩ := mm_ix_some h
  refine mm_sld hX hsc hss hin d_Lw_law_379 ?_
  rcases mm_tc_some h with ⟨z4, g5, hf6, h⟩ | ⟨xe, z4, g5, hf6, h⟩
  · refine mm_goR (v := (some (.int z4))) (mm_goV (As := [.int (xs (x4 + 1).toNatClampNeg), .int (xs (x4 + 2).toNatClampNeg)]) (rest := []) hX (c_Mo_giveBack mm_ls20 hf6) yw_Mo_giveBack wt_760 wt_761 wt_762 hP hF (mm_recv (h := 20) (i := 0) hX hP mm_ls20 rfl rfl) rfl hl.1 (Nat.le_of_ble_eq_true rfl) (by decide) (by decide) (by omega) (by omega) d_Lw_law_380) hF (fun H locs hP hF hO => ?_)
    have hsc := hO b scr hb0 hsc
    refine lv_istore hx hb d_Lw_law_383 hl (Nat.lt_of_lt_of_le (Nat.lt_succ_self _) (Nat.le_of_ble_eq_true rfl)) rfl (fun ls hl => ?_)
    have hl : lv_has ls 7 [(6, .int z4), (5, .int z1), (0, .ref b), (1, .ref (L.2.1 0 0)), (2, .ref (L.2.1 20 0)), (3, .ref (L.2.1 50 0)), (4, .int x4)] := hl
    refine lv_aload_n hx hb d_Lw_law_385 rfl (lv_at hl 4 rfl) ?_
    rcases mm_tc_some h with ⟨z7, g8, hf9, h⟩ | ⟨xe, z7, g8, hf9, h⟩
    · refine mm_goR (v := (some (.int z7))) (mm_goV (As := []) (rest := []) hX (c_Mo_thrown mm_ls20 hf9) yw_Mo_thrown wt_694 wt_695 wt_696 hP hF (mm_recv (h := 20) (i := 0) hX hP mm_ls20 rfl rfl) rfl hl.1 (Nat.le_of_ble_eq_true rfl) (by decide) (by decide) (by omega) (by omega) d_Lw_law_386) hF (fun H locs hP hF hO => ?_)
      have hsc := hO b scr hb0 hsc
      refine lv_iload hx hb d_Lw_law_389 (lv_at hl 1 rfl) ?_
      refine lv_icmp_eq (tgt := 396) hx hb d_Lw_law_391 rfl (fun hc => ?_) (fun hc => ?_)
      · have h := mm_pos hc h
        refine lv_iload hx hb d_Lw_law_396 (lv_at hl 1 rfl) ?_
        refine lv_if_ne (tgt := 413) hx hb d_Lw_law_398 rfl (fun hc => ?_) (fun hc => ?_)
        · have h := mm_neg hc h
          refine lv_goto (tgt := 1316) hx hb d_Lw_law_413 rfl ?_
          cases h
          exact kk _ _ _ _ _ hP hF hsc (lv_sub (l' := [(0, .ref b), (1, .ref (L.2.1 0 0)), (2, .ref (L.2.1 20 0)), (3, .ref (L.2.1 50 0)), (4, .int x4)]) hl [2, 3, 4, 5, 6] rfl) (by omega) (by omega)
        · have h := mm_pos hc h
          refine lv_aload_n hx hb d_Lw_law_401 rfl (lv_at hl 5 rfl) ?_
          refine lv_iconst (v := 0) hx hb d_Lw_law_402 (by decide) ?_
          refine mm_lald hX hP d_Lw_law_403 ?_
          refine lv_iload hx hb d_Lw_law_404 (lv_at hl 0 rfl) ?_
          refine lv_i2l hx hb d_Lw_law_406 rfl ?_
          refine W.lcmp hx hb d_Lw_law_407 ?_
          refine lv_if_eq (tgt := 413) hx hb d_Lw_law_408 rfl (fun hc => ?_) (fun hc => ?_)
          · have h := mm_pos hc h
            refine lv_goto (tgt := 1316) hx hb d_Lw_law_413 rfl ?_
            cases h
            exact kk _ _ _ _ _ hP hF hsc (lv_sub (l' := [(0, .ref b), (1, .ref (L.2.1 0 0)), (2, .ref (L.2.1 20 0)), (3, .ref (L.2.1 50 0)), (4, .int x4)]) hl [2, 3, 4, 5, 6] rfl) (by omega) (by omega)
          · have h := mm_neg hc h
            refine lv_iconst (v := 0) hx hb d_Lw_law_411 (by decide) ?_
            cases h
      · have h := mm_neg hc h
        refine lv_iconst (v := 0) hx hb d_Lw_law_394 (by decide) ?_
        cases h
    · cases h
  · cases h
def f_Lw_case416 (n : Nat) (xs : Nat → Int32) (Ln : Nat) (g : mm_M) (x4 : Int32) : Option mm_M :=
  mm_ix (x4 + 1) Ln (mm_ob (f_Lw_van n g 0 (xs (x4 + 1).toNatClampNeg) 0) (fun z1 g2 => mm_ix (x4 + 1) Ln (mm_tc (f_Mo_van n g2 0 (xs (x4 + 1).toNatClampNeg)) (fun z4 g5 => mm_tc (f_Mo_thrown n g5 0) (fun z7 g8 => (if z7 = z1 then (if z1 = 0 then (if (lg_cmp (Int32.toInt64 (g8 50 0 0)) (Int32.toInt64 z4)) = 0 then some g8 else none) else some g8) else none)) (fun _ _ => none)) (fun _ _ => none))))
set_option maxRecDepth 100000 in
set_option maxHeartbeats 4000000 in
theorem w_Lw_case416 {p : Program} {l : Launch} {e : Env} {R : Room} {s : State} {m : MethodId} {args : Array Value} {below : List Frame} {meth : Method} {c : Code} {L : mm_L} {hh : List (Nat × Nat × Nat × Nat)} {Q : State → Prop} {b Ln : Nat} {xs : Nat → Int32} {scr : Cell} {g g' : mm_M} {x4 : Int32} {H : Heap} {locs : List Loc} {ls : Array Slot} {cells slots : Nat} (hX : mm_Xh hh L code 7 "LoanArrowsLaw" (some .boolean) 11 392 p l R s m meth c) (hb0 : ¬ mm_F L b) (hss : mm_scr s scr Ln xs) (h : f_Lw_case416 L.1 xs Ln g x4 = some g') (hP : mm_P L g H) (hF : ∀ q ∈ locs, mm_F L q.base) (hsc : H[b]? = some scr) (hl : lv_has ls 7 [(0, .ref b), (1, .ref (L.2.1 0 0)), (2, .ref (L.2.1 20 0)), (3, .ref (L.2.1 50 0)), (4, .int x4)]) (hcA : cells + 2 ≤ R.cells) (hsA : slots + 12 ≤ R.slots)
    (kk : ∀ (H1 : Heap) (locs1 : List Loc) (ls1 : Array Slot) (cells1 slots1 : Nat), mm_P L g' H1 → (∀ q ∈ locs1, mm_F L q.base) → H1[b]? = some scr → lv_has ls1 7 [(0, .ref b), (1, .ref (L.2.1 0 0)), (2, .ref (L.2.1 20 0)), (3, .ref (L.2.1 50 0)), (4, .int x4)] → cells1 ≤ cells + 1 → slots1 ≤ slots + 6 → W p l e R s m args below meth c H1 locs1 cells1 slots1 Q (F0 m 1316 ls1 [])) : W p l e R s m args below meth c H locs cells slots Q (F0 m 416 ls []) := by
  have hX0 := hX
  obtain ⟨hx, hb, hml, hown, hr, hlk, hex, hRf, hRl, hRc, hRs, hJ, hK, hst, h00⟩ := hX0
  unfold f_Lw_case416 at h
  refine lv_aload_n hx hb d_Lw_law_416 rfl (lv_at hl 1 rfl) ?_
  refine lv_aload_n hx hb d_Lw_law_417 rfl (lv_at hl 0 rfl) ?_
  refine lv_iload hx hb d_Lw_law_418 (lv_at hl 4 rfl) ?_
  refine lv_iconst (v := 1) hx hb d_Lw_law_420 (by decide) ?_
  refine lv_iadd hx hb d_Lw_law_421 ?_
  obtain ⟨hin, h⟩ := mm_ix_some h
  refine mm_sld hX hsc hss hin d_Lw_law_422 ?_
  refine lv_aload_n hx hb d_Lw_law_423 rfl (lv_at hl 3 rfl) ?_
  obtain ⟨⟨z1, g2⟩, hf3, h⟩ := mm_ob_some h
  refine mm_goS1 (As := [.ref (L.2.1 0 0), .int (xs (x4 + 1).toNatClampNeg), .ref (L.2.1 50 0)]) (rest := []) hX (c_Lw_van mm_ls0 mm_ls50 hf3) wt_430 (by decide +kernel) ⟨by decide +kernel, by decide +kernel⟩ (by show (parseMethodDescriptor (y_Lw_van).desc).map (fun d => d.parameters.length) = some 3; decide +kernel) wt_428 wt_429 wt_0 hP hF rfl hl.1 (Nat.le_of_ble_eq_true rfl) (by decide) (by decide) (by omega) (by omega) d_Lw_law_424 (fun H locs hP hF hO => ?_)
  have hsc := hO b scr hb0 hsc
  refine lv_istore hx hb d_Lw_law_427 hl (Nat.lt_of_lt_of_le (Nat.lt_succ_self _) (Nat.le_of_ble_eq_true rfl)) rfl (fun ls hl => ?_)
  have hl : lv_has ls 7 [(5, .int z1), (0, .ref b), (1, .ref (L.2.1 0 0)), (2, .ref (L.2.1 20 0)), (3, .ref (L.2.1 50 0)), (4, .int x4)] := hl
  refine lv_aload_n hx hb d_Lw_law_429 rfl (lv_at hl 3 rfl) ?_
  refine lv_aload_n hx hb d_Lw_law_430 rfl (lv_at hl 1 rfl) ?_
  refine lv_iload hx hb d_Lw_law_431 (lv_at hl 5 rfl) ?_
  refine lv_iconst (v := 1) hx hb d_Lw_law_433 (by decide) ?_
  refine lv_iadd hx hb d_Lw_law_434 ?_
  obtain ⟨hin, h⟩ := mm_ix_some h
  refine mm_sld hX hsc hss hin d_Lw_law_435 ?_
  rcases mm_tc_some h with ⟨z4, g5, hf6, h⟩ | ⟨xe, z4, g5, hf6, h⟩
  · refine mm_goR (v := (some (.int z4))) (mm_goV (As := [.int (xs (x4 + 1).toNatClampNeg)]) (rest := []) hX (c_Mo_van mm_ls20 hf6) yw_Mo_van wt_768 wt_769 wt_770 hP hF (mm_recv (h := 20) (i := 0) hX hP mm_ls20 rfl rfl) rfl hl.1 (Nat.le_of_ble_eq_true rfl) (by decide) (by decide) (by omega) (by omega) d_Lw_law_436) hF (fun H locs hP hF hO => ?_)
    have hsc := hO b scr hb0 hsc
    refine lv_istore hx hb d_Lw_law_439 hl (Nat.lt_of_lt_of_le (Nat.lt_succ_self _) (Nat.le_of_ble_eq_true rfl)) rfl (fun ls hl => ?_)
    have hl : lv_has ls 7 [(6, .int z4), (5, .int z1), (0, .ref b), (1, .ref (L.2.1 0 0)), (2, .ref (L.2.1 20 0)), (3, .ref (L.2.1 50 0)), (4, .int x4)] := hl
    refine lv_aload_n hx hb d_Lw_law_441 rfl (lv_at hl 4 rfl) ?_
    rcases mm_tc_some h with ⟨z7, g8, hf9, h⟩ | ⟨xe, z7, g8, hf9, h⟩
    · refine mm_goR (v := (some (.int z7))) (mm_goV (As := []) (rest := []) hX (c_Mo_thrown mm_ls20 hf9) yw_Mo_thrown wt_694 wt_695 wt_696 hP hF (mm_recv (h := 20) (i := 0) hX hP mm_ls20 rfl rfl) rfl hl.1 (Nat.le_of_ble_eq_true rfl) (by decide) (by decide) (by omega) (by omega) d_Lw_law_442) hF (fun H locs hP hF hO => ?_)
      have hsc := hO b scr hb0 hsc
      refine lv_iload hx hb d_Lw_law_445 (lv_at hl 1 rfl) ?_
      refine lv_icmp_eq (tgt := 452) hx hb d_Lw_law_447 rfl (fun hc => ?_) (fun hc => ?_)
      · have h := mm_pos hc h
        refine lv_iload hx hb d_Lw_law_452 (lv_at hl 1 rfl) ?_
        refine lv_if_ne (tgt := 469) hx hb d_Lw_law_454 rfl (fun hc => ?_) (fun hc => ?_)
        · have h := mm_neg hc h
          refine lv_goto (tgt := 1316) hx hb d_Lw_law_469 rfl ?_
          cases h
          exact kk _ _ _ _ _ hP hF hsc (lv_sub (l' := [(0, .ref b), (1, .ref (L.2.1 0 0)), (2, .ref (L.2.1 20 0)), (3, .ref (L.2.1 50 0)), (4, .int x4)]) hl [2, 3, 4, 5, 6] rfl) (by omega) (by omega)
        · have h := mm_pos hc h
          refine lv_aload_n hx hb d_Lw_law_457 rfl (lv_at hl 5 rfl) ?_
          refine lv_iconst (v := 0) hx hb d_Lw_law_458 (by decide) ?_
          refine mm_lald hX hP d_Lw_law_459 ?_
          refine lv_iload hx hb d_Lw_law_460 (lv_at hl 0 rfl) ?_
          refine lv_i2l hx hb d_Lw_law_462 rfl ?_
          refine W.lcmp hx hb d_Lw_law_463 ?_
          refine lv_if_eq (tgt := 469) hx hb d_Lw_law_464 rfl (fun hc => ?_) (fun hc => ?_)
          · have h := mm_pos hc h
            refine lv_goto (tgt := 1316) hx hb d_Lw_law_469 rfl ?_
            cases h
            exact kk _ _ _ _ _ hP hF hsc (lv_sub (l' := [(0, .ref b), (1, .ref (L.2.1 0 0)), (2, .ref (L.2.1 20 0)), (3, .ref (L.2.1 50 0)), (4, .int x4)]) hl [2, 3, 4, 5, 6] rfl) (by omega) (by omega)
          · have h := mm_neg hc h
            refine lv_iconst (v := 0) hx hb d_Lw_law_467 (by decide) ?_
            cases h
      · have h := mm_neg hc h
        refine lv_iconst (v := 0) hx hb d_Lw_law_450 (by decide) ?_
        cases h
    · cases h
  · cases h
def f_Lw_case472 (n : Nat) (xs : Nat → Int32) (Ln : Nat) (g : mm_M) (x4 : Int32) : Option mm_M :=
  mm_ix (x4 + 1) Ln (mm_ob (f_Lw_sendAll n g 0 (xs (x4 + 1).toNatClampNeg) 0) (fun z1 g2 => mm_ix (x4 + 1) Ln (mm_tc (f_Mo_sendAll n g2 0 (xs (x4 + 1).toNatClampNeg)) (fun z4 g5 => mm_tc (f_Mo_thrown n g5 0) (fun z7 g8 => (if z7 = z1 then (if z1 = 0 then (if (lg_cmp (Int32.toInt64 (g8 50 0 0)) (Int32.toInt64 z4)) = 0 then some g8 else none) else some g8) else none)) (fun _ _ => none)) (fun _ _ => none))))
set_option maxRecDepth 100000 in
set_option maxHeartbeats 4000000 in
theorem w_Lw_case472 {p : Program} {l : Launch} {e : Env} {R : Room} {s : State} {m : MethodId} {args : Array Value} {below : List Frame} {meth : Method} {c : Code} {L : mm_L} {hh : List (Nat × Nat × Nat × Nat)} {Q : State → Prop} {b Ln : Nat} {xs : Nat → Int32} {scr : Cell} {g g' : mm_M} {x4 : Int32} {H : Heap} {locs : List Loc} {ls : Array Slot} {cells slots : Nat} (hX : mm_Xh hh L code 7 "LoanArrowsLaw" (some .boolean) 11 392 p l R s m meth c) (hb0 : ¬ mm_F L b) (hss : mm_scr s scr Ln xs) (h : f_Lw_case472 L.1 xs Ln g x4 = some g') (hP : mm_P L g H) (hF : ∀ q ∈ locs, mm_F L q.base) (hsc : H[b]? = some scr) (hl : lv_has ls 7 [(0, .ref b), (1, .ref (L.2.1 0 0)), (2, .ref (L.2.1 20 0)), (3, .ref (L.2.1 50 0)), (4, .int x4)]) (hcA : cells + 2 ≤ R.cells) (hsA : slots + 12 ≤ R.slots)
    (kk : ∀ (H1 : Heap) (locs1 : List Loc) (ls1 : Array Slot) (cells1 slots1 : Nat), mm_P L g' H1 → (∀ q ∈ locs1, mm_F L q.base) → H1[b]? = some scr → lv_has ls1 7 [(0, .ref b), (1, .ref (L.2.1 0 0)), (2, .ref (L.2.1 20 0)), (3, .ref (L.2.1 50 0)), (4, .int x4)] → cells1 ≤ cells + 1 → slots1 ≤ slots + 6 → W p l e R s m args below meth c H1 locs1 cells1 slots1 Q (F0 m 1316 ls1 [])) : W p l e R s m args below meth c H locs cells slots Q (F0 m 472 ls []) := by
  have hX0 := hX
  obtain ⟨hx, hb, hml, hown, hr, hlk, hex, hRf, hRl, hRc, hRs, hJ, hK, hst, h00⟩ := hX0
  unfold f_Lw_case472 at h
  refine lv_aload_n hx hb d_Lw_law_472 rfl (lv_at hl 1 rfl) ?_
  refine lv_aload_n hx hb d_Lw_law_473 rfl (lv_at hl 0 rfl) ?_
  refine lv_iload hx hb d_Lw_law_474 (lv_at hl 4 rfl) ?_
  refine lv_iconst (v := 1) hx hb d_Lw_law_476 (by decide) ?_
  refine lv_iadd hx hb d_Lw_law_477 ?_
  obtain ⟨hin, h⟩ := mm_ix_some h
  refine mm_sld hX hsc hss hin d_Lw_law_478 ?_
  refine lv_aload_n hx hb d_Lw_law_479 rfl (lv_at hl 3 rfl) ?_
  obtain ⟨⟨z1, g2⟩, hf3, h⟩ := mm_ob_some h
  refine mm_goS1 (As := [.ref (L.2.1 0 0), .int (xs (x4 + 1).toNatClampNeg), .ref (L.2.1 50 0)]) (rest := []) hX (c_Lw_sendAll mm_ls0 mm_ls50 hf3) wt_442 (by decide +kernel) ⟨by decide +kernel, by decide +kernel⟩ (by show (parseMethodDescriptor (y_Lw_sendAll).desc).map (fun d => d.parameters.length) = some 3; decide +kernel) wt_440 wt_441 wt_0 hP hF rfl hl.1 (Nat.le_of_ble_eq_true rfl) (by decide) (by decide) (by omega) (by omega) d_Lw_law_480 (fun H locs hP hF hO => ?_)
  have hsc := hO b scr hb0 hsc
  refine lv_istore hx hb d_Lw_law_483 hl (Nat.lt_of_lt_of_le (Nat.lt_succ_self _) (Nat.le_of_ble_eq_true rfl)) rfl (fun ls hl => ?_)
  have hl : lv_has ls 7 [(5, .int z1), (0, .ref b), (1, .ref (L.2.1 0 0)), (2, .ref (L.2.1 20 0)), (3, .ref (L.2.1 50 0)), (4, .int x4)] := hl
  refine lv_aload_n hx hb d_Lw_law_485 rfl (lv_at hl 3 rfl) ?_
  refine lv_aload_n hx hb d_Lw_law_486 rfl (lv_at hl 1 rfl) ?_
  refine lv_iload hx hb d_Lw_law_487 (lv_at hl 5 rfl) ?_
  refine lv_iconst (v := 1) hx hb d_Lw_law_489 (by decide) ?_
  refine lv_iadd hx hb d_Lw_law_490 ?_
  obtain ⟨hin, h⟩ := mm_ix_some h
  refine mm_sld hX hsc hss hin d_Lw_law_491 ?_
  rcases mm_tc_some h with ⟨z4, g5, hf6, h⟩ | ⟨xe, z4, g5, hf6, h⟩
  · refine mm_goR (v := (some (.int z4))) (mm_goV (As := [.int (xs (x4 + 1).toNatClampNeg)]) (rest := []) hX (c_Mo_sendAll mm_ls20 hf6) yw_Mo_sendAll wt_772 wt_773 wt_774 hP hF (mm_recv (h := 20) (i := 0) hX hP mm_ls20 rfl rfl) rfl hl.1 (Nat.le_of_ble_eq_true rfl) (by decide) (by decide) (by omega) (by omega) d_Lw_law_492) hF (fun H locs hP hF hO => ?_)
    have hsc := hO b scr hb0 hsc
    refine lv_istore hx hb d_Lw_law_495 hl (Nat.lt_of_lt_of_le (Nat.lt_succ_self _) (Nat.le_of_ble_eq_true rfl)) rfl (fun ls hl => ?_)
    have hl : lv_has ls 7 [(6, .int z4), (5, .int z1), (0, .ref b), (1, .ref (L.2.1 0 0)), (2, .ref (L.2.1 20 0)), (3, .ref (L.2.1 50 0)), (4, .int x4)] := hl
    refine lv_aload_n hx hb d_Lw_law_497 rfl (lv_at hl 4 rfl) ?_
    rcases mm_tc_some h with ⟨z7, g8, hf9, h⟩ | ⟨xe, z7, g8, hf9, h⟩
    · refine mm_goR (v := (some (.int z7))) (mm_goV (As := []) (rest := []) hX (c_Mo_thrown mm_ls20 hf9) yw_Mo_thrown wt_694 wt_695 wt_696 hP hF (mm_recv (h := 20) (i := 0) hX hP mm_ls20 rfl rfl) rfl hl.1 (Nat.le_of_ble_eq_true rfl) (by decide) (by decide) (by omega) (by omega) d_Lw_law_498) hF (fun H locs hP hF hO => ?_)
      have hsc := hO b scr hb0 hsc
      refine lv_iload hx hb d_Lw_law_501 (lv_at hl 1 rfl) ?_
      refine lv_icmp_eq (tgt := 508) hx hb d_Lw_law_503 rfl (fun hc => ?_) (fun hc => ?_)
      · have h := mm_pos hc h
        refine lv_iload hx hb d_Lw_law_508 (lv_at hl 1 rfl) ?_
        refine lv_if_ne (tgt := 525) hx hb d_Lw_law_510 rfl (fun hc => ?_) (fun hc => ?_)
        · have h := mm_neg hc h
          refine lv_goto (tgt := 1316) hx hb d_Lw_law_525 rfl ?_
          cases h
          exact kk _ _ _ _ _ hP hF hsc (lv_sub (l' := [(0, .ref b), (1, .ref (L.2.1 0 0)), (2, .ref (L.2.1 20 0)), (3, .ref (L.2.1 50 0)), (4, .int x4)]) hl [2, 3, 4, 5, 6] rfl) (by omega) (by omega)
        · have h := mm_pos hc h
          refine lv_aload_n hx hb d_Lw_law_513 rfl (lv_at hl 5 rfl) ?_
          refine lv_iconst (v := 0) hx hb d_Lw_law_514 (by decide) ?_
          refine mm_lald hX hP d_Lw_law_515 ?_
          refine lv_iload hx hb d_Lw_law_516 (lv_at hl 0 rfl) ?_
          refine lv_i2l hx hb d_Lw_law_518 rfl ?_
          refine W.lcmp hx hb d_Lw_law_519 ?_
          refine lv_if_eq (tgt := 525) hx hb d_Lw_law_520 rfl (fun hc => ?_) (fun hc => ?_)
          · have h := mm_pos hc h
            refine lv_goto (tgt := 1316) hx hb d_Lw_law_525 rfl ?_
            cases h
            exact kk _ _ _ _ _ hP hF hsc (lv_sub (l' := [(0, .ref b), (1, .ref (L.2.1 0 0)), (2, .ref (L.2.1 20 0)), (3, .ref (L.2.1 50 0)), (4, .int x4)]) hl [2, 3, 4, 5, 6] rfl) (by omega) (by omega)
          · have h := mm_neg hc h
            refine lv_iconst (v := 0) hx hb d_Lw_law_523 (by decide) ?_
            cases h
      · have h := mm_neg hc h
        refine lv_iconst (v := 0) hx hb d_Lw_law_506 (by decide) ?_
        cases h
    · cases h
  · cases h
def f_Lw_case528 (n : Nat) (xs : Nat → Int32) (Ln : Nat) (g : mm_M) (x4 : Int32) : Option mm_M :=
  mm_tc (f_LA_pending n g 0) (fun z1 g2 => mm_tc (f_Mo_pending n g2 0) (fun z4 g5 => (if z1 = z4 then some g5 else none)) (fun _ _ => none)) (fun _ _ => none)
set_option maxRecDepth 100000 in
set_option maxHeartbeats 4000000 in
theorem w_Lw_case528 {p : Program} {l : Launch} {e : Env} {R : Room} {s : State} {m : MethodId} {args : Array Value} {below : List Frame} {meth : Method} {c : Code} {L : mm_L} {hh : List (Nat × Nat × Nat × Nat)} {Q : State → Prop} {b Ln : Nat} {xs : Nat → Int32} {scr : Cell} {g g' : mm_M} {x4 : Int32} {H : Heap} {locs : List Loc} {ls : Array Slot} {cells slots : Nat} (hX : mm_Xh hh L code 7 "LoanArrowsLaw" (some .boolean) 11 392 p l R s m meth c) (hb0 : ¬ mm_F L b) (hss : mm_scr s scr Ln xs) (h : f_Lw_case528 L.1 xs Ln g x4 = some g') (hP : mm_P L g H) (hF : ∀ q ∈ locs, mm_F L q.base) (hsc : H[b]? = some scr) (hl : lv_has ls 7 [(0, .ref b), (1, .ref (L.2.1 0 0)), (2, .ref (L.2.1 20 0)), (3, .ref (L.2.1 50 0)), (4, .int x4)]) (hcA : cells + 2 ≤ R.cells) (hsA : slots + 12 ≤ R.slots)
    (kk : ∀ (H1 : Heap) (locs1 : List Loc) (ls1 : Array Slot) (cells1 slots1 : Nat), mm_P L g' H1 → (∀ q ∈ locs1, mm_F L q.base) → H1[b]? = some scr → lv_has ls1 7 [(0, .ref b), (1, .ref (L.2.1 0 0)), (2, .ref (L.2.1 20 0)), (3, .ref (L.2.1 50 0)), (4, .int x4)] → cells1 ≤ cells + 1 → slots1 ≤ slots + 6 → W p l e R s m args below meth c H1 locs1 cells1 slots1 Q (F0 m 1316 ls1 [])) : W p l e R s m args below meth c H locs cells slots Q (F0 m 528 ls []) := by
  have hX0 := hX
  obtain ⟨hx, hb, hml, hown, hr, hlk, hex, hRf, hRl, hRc, hRs, hJ, hK, hst, h00⟩ := hX0
  unfold f_Lw_case528 at h
  refine lv_aload_n hx hb d_Lw_law_528 rfl (lv_at hl 1 rfl) ?_
  rcases mm_tc_some h with ⟨z1, g2, hf3, h⟩ | ⟨xe, z1, g2, hf3, h⟩
  · refine mm_goR (v := (some (.int z1))) (mm_goV (As := []) (rest := []) hX (c_LA_pending mm_ls0 hf3) yw_LA_pending wt_175 wt_176 wt_177 hP hF (mm_recv (h := 0) (i := 0) hX hP mm_ls0 rfl rfl) rfl hl.1 (Nat.le_of_ble_eq_true rfl) (by decide) (by decide) (by omega) (by omega) d_Lw_law_529) hF (fun H locs hP hF hO => ?_)
    have hsc := hO b scr hb0 hsc
    refine lv_aload_n hx hb d_Lw_law_532 rfl (lv_at hl 2 rfl) ?_
    rcases mm_tc_some h with ⟨z4, g5, hf6, h⟩ | ⟨xe, z4, g5, hf6, h⟩
    · refine mm_goR (v := (some (.int z4))) (mm_goV (As := []) (rest := [.int z1]) hX (c_Mo_pending mm_ls20 hf6) yw_Mo_pending wt_780 wt_781 wt_782 hP hF (mm_recv (h := 20) (i := 0) hX hP mm_ls20 rfl rfl) rfl hl.1 (Nat.le_of_ble_eq_true rfl) (by decide) (by decide) (by omega) (by omega) d_Lw_law_533) hF (fun H locs hP hF hO => ?_)
      have hsc := hO b scr hb0 hsc
      refine lv_icmp_eq (tgt := 1316) hx hb d_Lw_law_536 rfl (fun hc => ?_) (fun hc => ?_)
      · have h := mm_pos hc h
        cases h
        exact kk _ _ _ _ _ hP hF hsc (lv_sub (l' := [(0, .ref b), (1, .ref (L.2.1 0 0)), (2, .ref (L.2.1 20 0)), (3, .ref (L.2.1 50 0)), (4, .int x4)]) hl [0, 1, 2, 3, 4] rfl) (by omega) (by omega)
      · have h := mm_neg hc h
        refine lv_iconst (v := 0) hx hb d_Lw_law_539 (by decide) ?_
        cases h
    · cases h
  · cases h
def f_Lw_case541 (n : Nat) (xs : Nat → Int32) (Ln : Nat) (g : mm_M) (x4 : Int32) : Option mm_M :=
  mm_ix (x4 + 1) Ln (mm_ix (x4 + 2) Ln (mm_ob (f_Lw_packet n g 0 (xs (x4 + 1).toNatClampNeg) (xs (x4 + 2).toNatClampNeg) 0) (fun z1 g2 => mm_ix (x4 + 1) Ln (mm_ix (x4 + 2) Ln (mm_tc (f_Mo_packet n g2 0 (xs (x4 + 1).toNatClampNeg) (xs (x4 + 2).toNatClampNeg)) (fun z4 g5 => mm_tc (f_Mo_thrown n g5 0) (fun z7 g8 => (if z7 = z1 then (if z1 = 0 then (if (lg_cmp (Int32.toInt64 (g8 50 0 0)) (Int32.toInt64 z4)) = 0 then some g8 else none) else some g8) else none)) (fun _ _ => none)) (fun _ _ => none))))))
set_option maxRecDepth 100000 in
set_option maxHeartbeats 4000000 in
theorem w_Lw_case541 {p : Program} {l : Launch} {e : Env} {R : Room} {s : State} {m : MethodId} {args : Array Value} {below : List Frame} {meth : Method} {c : Code} {L : mm_L} {hh : List (Nat × Nat × Nat × Nat)} {Q : State → Prop} {b Ln : Nat} {xs : Nat → Int32} {scr : Cell} {g g' : mm_M} {x4 : Int32} {H : Heap} {locs : List Loc} {ls : Array Slot} {cells slots : Nat} (hX : mm_Xh hh L code 7 "LoanArrowsLaw" (some .boolean) 11 392 p l R s m meth c) (hb0 : ¬ mm_F L b) (hss : mm_scr s scr Ln xs) (h : f_Lw_case541 L.1 xs Ln g x4 = some g') (hP : mm_P L g H) (hF : ∀ q ∈ locs, mm_F L q.base) (hsc : H[b]? = some scr) (hl : lv_has ls 7 [(0, .ref b), (1, .ref (L.2.1 0 0)), (2, .ref (L.2.1 20 0)), (3, .ref (L.2.1 50 0)), (4, .int x4)]) (hcA : cells + 2 ≤ R.cells) (hsA : slots + 12 ≤ R.slots)
    (kk : ∀ (H1 : Heap) (locs1 : List Loc) (ls1 : Array Slot) (cells1 slots1 : Nat), mm_P L g' H1 → (∀ q ∈ locs1, mm_F L q.base) → H1[b]? = some scr → lv_has ls1 7 [(0, .ref b), (1, .ref (L.2.1 0 0)), (2, .ref (L.2.1 20 0)), (3, .ref (L.2.1 50 0)), (4, .int x4)] → cells1 ≤ cells + 1 → slots1 ≤ slots + 6 → W p l e R s m args below meth c H1 locs1 cells1 slots1 Q (F0 m 1316 ls1 [])) : W p l e R s m args below meth c H locs cells slots Q (F0 m 541 ls []) := by
  have hX0 := hX
  obtain ⟨hx, hb, hml, hown, hr, hlk, hex, hRf, hRl, hRc, hRs, hJ, hK, hst, h00⟩ := hX0
  unfold f_Lw_case541 at h
  refine lv_aload_n hx hb d_Lw_law_541 rfl (lv_at hl 1 rfl) ?_
  refine lv_aload_n hx hb d_Lw_law_542 rfl (lv_at hl 0 rfl) ?_
  refine lv_iload hx hb d_Lw_law_543 (lv_at hl 4 rfl) ?_
  refine lv_iconst (v := 1) hx hb d_Lw_law_545 (by decide) ?_
  refine lv_iadd hx hb d_Lw_law_546 ?_
  obtain ⟨hin, h⟩ := mm_ix_some h
  refine mm_sld hX hsc hss hin d_Lw_law_547 ?_
  refine lv_aload_n hx hb d_Lw_law_548 rfl (lv_at hl 0 rfl) ?_
  refine lv_iload hx hb d_Lw_law_549 (lv_at hl 4 rfl) ?_
  refine lv_iconst (v := 2) hx hb d_Lw_law_551 (by decide) ?_
  refine lv_iadd hx hb d_Lw_law_552 ?_
  obtain ⟨hin, h⟩ := mm_ix_some h
  refine mm_sld hX hsc hss hin d_Lw_law_553 ?_
  refine lv_aload_n hx hb d_Lw_law_554 rfl (lv_at hl 3 rfl) ?_
  obtain ⟨⟨z1, g2⟩, hf3, h⟩ := mm_ob_some h
  refine mm_goS1 (As := [.ref (L.2.1 0 0), .int (xs (x4 + 1).toNatClampNeg), .int (xs (x4 + 2).toNatClampNeg), .ref (L.2.1 50 0)]) (rest := []) hX (c_Lw_packet mm_ls0 mm_ls50 hf3) wt_458 (by decide +kernel) ⟨by decide +kernel, by decide +kernel⟩ (by show (parseMethodDescriptor (y_Lw_packet).desc).map (fun d => d.parameters.length) = some 4; decide +kernel) wt_456 wt_457 wt_0 hP hF rfl hl.1 (Nat.le_of_ble_eq_true rfl) (by decide) (by decide) (by omega) (by omega) d_Lw_law_555 (fun H locs hP hF hO => ?_)
  have hsc := hO b scr hb0 hsc
  refine lv_istore hx hb d_Lw_law_558 hl (Nat.lt_of_lt_of_le (Nat.lt_succ_self _) (Nat.le_of_ble_eq_true rfl)) rfl (fun ls hl => ?_)
  have hl : lv_has ls 7 [(5, .int z1), (0, .ref b), (1, .ref (L.2.1 0 0)), (2, .ref (L.2.1 20 0)), (3, .ref (L.2.1 50 0)), (4, .int x4)] := hl
  refine lv_aload_n hx hb d_Lw_law_560 rfl (lv_at hl 3 rfl) ?_
  refine lv_aload_n hx hb d_Lw_law_561 rfl (lv_at hl 1 rfl) ?_
  refine lv_iload hx hb d_Lw_law_562 (lv_at hl 5 rfl) ?_
  refine lv_iconst (v := 1) hx hb d_Lw_law_564 (by decide) ?_
  refine lv_iadd hx hb d_Lw_law_565 ?_
  obtain ⟨hin, h⟩ := mm_ix_some h
  refine mm_sld hX hsc hss hin d_Lw_law_566 ?_
  refine lv_aload_n hx hb d_Lw_law_567 rfl (lv_at hl 1 rfl) ?_
  refine lv_iload hx hb d_Lw_law_568 (lv_at hl 5 rfl) ?_
  refine lv_iconst (v := 2) hx hb d_Lw_law_570 (by decide) ?_
  refine lv_iadd hx hb d_Lw_law_571 ?_
  obtain ⟨hin, h⟩ := mm_ix_some h
  refine mm_sld hX hsc hss hin d_Lw_law_572 ?_
  rcases mm_tc_some h with ⟨z4, g5, hf6, h⟩ | ⟨xe, z4, g5, hf6, h⟩
  · refine mm_goR (v := (some (.int z4))) (mm_goV (As := [.int (xs (x4 + 1).toNatClampNeg), .int (xs (x4 + 2).toNatClampNeg)]) (rest := []) hX (c_Mo_packet mm_ls20 hf6) yw_Mo_packet wt_784 wt_785 wt_786 hP hF (mm_recv (h := 20) (i := 0) hX hP mm_ls20 rfl rfl) rfl hl.1 (Nat.le_of_ble_eq_true rfl) (by decide) (by decide) (by omega) (by omega) d_Lw_law_573) hF (fun H locs hP hF hO => ?_)
    have hsc := hO b scr hb0 hsc
    refine lv_istore hx hb d_Lw_law_576 hl (Nat.lt_of_lt_of_le (Nat.lt_succ_self _) (Nat.le_of_ble_eq_true rfl)) rfl (fun ls hl => ?_)
    have hl : lv_has ls 7 [(6, .int z4), (5, .int z1), (0, .ref b), (1, .ref (L.2.1 0 0)), (2, .ref (L.2.1 20 0)), (3, .ref (L.2.1 50 0)), (4, .int x4)] := hl
    refine lv_aload_n hx hb d_Lw_law_578 rfl (lv_at hl 4 rfl) ?_
    rcases mm_tc_some h with ⟨z7, g8, hf9, h⟩ | ⟨xe, z7, g8, hf9, h⟩
    · refine mm_goR (v := (some (.int z7))) (mm_goV (As := []) (rest := []) hX (c_Mo_thrown mm_ls20 hf9) yw_Mo_thrown wt_694 wt_695 wt_696 hP hF (mm_recv (h := 20) (i := 0) hX hP mm_ls20 rfl rfl) rfl hl.1 (Nat.le_of_ble_eq_true rfl) (by decide) (by decide) (by omega) (by omega) d_Lw_law_579) hF (fun H locs hP hF hO => ?_)
      have hsc := hO b scr hb0 hsc
      refine lv_iload hx hb d_Lw_law_582 (lv_at hl 1 rfl) ?_
      refine lv_icmp_eq (tgt := 589) hx hb d_Lw_law_584 rfl (fun hc => ?_) (fun hc => ?_)
      · have h := mm_pos hc h
        refine lv_iload hx hb d_Lw_law_589 (lv_at hl 1 rfl) ?_
        refine lv_if_ne (tgt := 606) hx hb d_Lw_law_591 rfl (fun hc => ?_) (fun hc => ?_)
        · have h := mm_neg hc h
          refine lv_goto (tgt := 1316) hx hb d_Lw_law_606 rfl ?_
          cases h
          exact kk _ _ _ _ _ hP hF hsc (lv_sub (l' := [(0, .ref b), (1, .ref (L.2.1 0 0)), (2, .ref (L.2.1 20 0)), (3, .ref (L.2.1 50 0)), (4, .int x4)]) hl [2, 3, 4, 5, 6] rfl) (by omega) (by omega)
        · have h := mm_pos hc h
          refine lv_aload_n hx hb d_Lw_law_594 rfl (lv_at hl 5 rfl) ?_
          refine lv_iconst (v := 0) hx hb d_Lw_law_595 (by decide) ?_
          refine mm_lald hX hP d_Lw_law_596 ?_
          refine lv_iload hx hb d_Lw_law_597 (lv_at hl 0 rfl) ?_
          refine lv_i2l hx hb d_Lw_law_599 rfl ?_
          refine W.lcmp hx hb d_Lw_law_600 ?_
          refine lv_if_eq (tgt := 606) hx hb d_Lw_law_601 rfl (fun hc => ?_) (fun hc => ?_)
          · have h := mm_pos hc h
            refine lv_goto (tgt := 1316) hx hb d_Lw_law_606 rfl ?_
            cases h
            exact kk _ _ _ _ _ hP hF hsc (lv_sub (l' := [(0, .ref b), (1, .ref (L.2.1 0 0)), (2, .ref (L.2.1 20 0)), (3, .ref (L.2.1 50 0)), (4, .int x4)]) hl [2, 3, 4, 5, 6] rfl) (by omega) (by omega)
          · have h := mm_neg hc h
            refine lv_iconst (v := 0) hx hb d_Lw_law_604 (by decide) ?_
            cases h
      · have h := mm_neg hc h
        refine lv_iconst (v := 0) hx hb d_Lw_law_587 (by decide) ?_
        cases h
    · cases h
  · cases h
def f_Lw_case609 (n : Nat) (xs : Nat → Int32) (Ln : Nat) (g : mm_M) (x4 : Int32) : Option mm_M :=
  mm_ix (x4 + 1) Ln (mm_ob (f_Lw_deliver n g 0 (xs (x4 + 1).toNatClampNeg) 0) (fun z1 g2 => mm_ix (x4 + 1) Ln (mm_tc (f_Mo_deliver n g2 0 (xs (x4 + 1).toNatClampNeg)) (fun z4 g5 => mm_tc (f_Mo_thrown n g5 0) (fun z7 g8 => (if z7 = z1 then (if z1 = 0 then (if (lg_cmp (Int32.toInt64 (g8 50 0 0)) (Int32.toInt64 z4)) = 0 then some g8 else none) else some g8) else none)) (fun _ _ => none)) (fun _ _ => none))))
set_option maxRecDepth 100000 in
set_option maxHeartbeats 4000000 in
theorem w_Lw_case609 {p : Program} {l : Launch} {e : Env} {R : Room} {s : State} {m : MethodId} {args : Array Value} {below : List Frame} {meth : Method} {c : Code} {L : mm_L} {hh : List (Nat × Nat × Nat × Nat)} {Q : State → Prop} {b Ln : Nat} {xs : Nat → Int32} {scr : Cell} {g g' : mm_M} {x4 : Int32} {H : Heap} {locs : List Loc} {ls : Array Slot} {cells slots : Nat} (hX : mm_Xh hh L code 7 "LoanArrowsLaw" (some .boolean) 11 392 p l R s m meth c) (hb0 : ¬ mm_F L b) (hss : mm_scr s scr Ln xs) (h : f_Lw_case609 L.1 xs Ln g x4 = some g') (hP : mm_P L g H) (hF : ∀ q ∈ locs, mm_F L q.base) (hsc : H[b]? = some scr) (hl : lv_has ls 7 [(0, .ref b), (1, .ref (L.2.1 0 0)), (2, .ref (L.2.1 20 0)), (3, .ref (L.2.1 50 0)), (4, .int x4)]) (hcA : cells + 2 ≤ R.cells) (hsA : slots + 12 ≤ R.slots)
    (kk : ∀ (H1 : Heap) (locs1 : List Loc) (ls1 : Array Slot) (cells1 slots1 : Nat), mm_P L g' H1 → (∀ q ∈ locs1, mm_F L q.base) → H1[b]? = some scr → lv_has ls1 7 [(0, .ref b), (1, .ref (L.2.1 0 0)), (2, .ref (L.2.1 20 0)), (3, .ref (L.2.1 50 0)), (4, .int x4)] → cells1 ≤ cells + 1 → slots1 ≤ slots + 6 → W p l e R s m args below meth c H1 locs1 cells1 slots1 Q (F0 m 1316 ls1 [])) : W p l e R s m args below meth c H locs cells slots Q (F0 m 609 ls []) := by
  have hX0 := hX
  obtain ⟨hx, hb, hml, hown, hr, hlk, hex, hRf, hRl, hRc, hRs, hJ, hK, hst, h00⟩ := hX0
  unfold f_Lw_case609 at h
  refine lv_aload_n hx hb d_Lw_law_609 rfl (lv_at hl 1 rfl) ?_
  refine lv_aload_n hx hb d_Lw_law_610 rfl (lv_at hl 0 rfl) ?_
  refine lv_iload hx hb d_Lw_law_611 (lv_at hl 4 rfl) ?_
  refine lv_iconst (v := 1) hx hb d_Lw_law_613 (by decide) ?_
  refine lv_iadd hx hb d_Lw_law_614 ?_
  obtain ⟨hin, h⟩ := mm_ix_some h
  refine mm_sld hX hsc hss hin d_Lw_law_615 ?_
  refine lv_aload_n hx hb d_Lw_law_616 rfl (lv_at hl 3 rfl) ?_
  obtain ⟨⟨z1, g2⟩, hf3, h⟩ := mm_ob_some h
  refine mm_goS1 (As := [.ref (L.2.1 0 0), .int (xs (x4 + 1).toNatClampNeg), .ref (L.2.1 50 0)]) (rest := []) hX (c_Lw_deliver mm_ls0 mm_ls50 hf3) wt_475 (by decide +kernel) ⟨by decide +kernel, by decide +kernel⟩ (by show (parseMethodDescriptor (y_Lw_deliver).desc).map (fun d => d.parameters.length) = some 3; decide +kernel) wt_473 wt_474 wt_0 hP hF rfl hl.1 (Nat.le_of_ble_eq_true rfl) (by decide) (by decide) (by omega) (by omega) d_Lw_law_617 (fun H locs hP hF hO => ?_)
  have hsc := hO b scr hb0 hsc
  refine lv_istore hx hb d_Lw_law_620 hl (Nat.lt_of_lt_of_le (Nat.lt_succ_self _) (Nat.le_of_ble_eq_true rfl)) rfl (fun ls hl => ?_)
  have hl : lv_has ls 7 [(5, .int z1), (0, .ref b), (1, .ref (L.2.1 0 0)), (2, .ref (L.2.1 20 0)), (3, .ref (L.2.1 50 0)), (4, .int x4)] := hl
  refine lv_aload_n hx hb d_Lw_law_622 rfl (lv_at hl 3 rfl) ?_
  refine lv_aload_n hx hb d_Lw_law_623 rfl (lv_at hl 1 rfl) ?_
  refine lv_iload hx hb d_Lw_law_624 (lv_at hl 5 rfl) ?_
  refine lv_iconst (v := 1) hx hb d_Lw_law_626 (by decide) ?_
  refine lv_iadd hx hb d_Lw_law_627 ?_
  obtain ⟨hin, h⟩ := mm_ix_some h
  refine mm_sld hX hsc hss hin d_Lw_law_628 ?_
  rcases mm_tc_some h with ⟨z4, g5, hf6, h⟩ | ⟨xe, z4, g5, hf6, h⟩
  · refine mm_goR (v := (some (.int z4))) (mm_goV (As := [.int (xs (x4 + 1).toNatClampNeg)]) (rest := []) hX (c_Mo_deliver mm_ls20 hf6) yw_Mo_deliver wt_792 wt_793 wt_794 hP hF (mm_recv (h := 20) (i := 0) hX hP mm_ls20 rfl rfl) rfl hl.1 (Nat.le_of_ble_eq_true rfl) (by decide) (by decide) (by omega) (by omega) d_Lw_law_629) hF (fun H locs hP hF hO => ?_)
    have hsc := hO b scr hb0 hsc
    refine lv_istore hx hb d_Lw_law_632 hl (Nat.lt_of_lt_of_le (Nat.lt_succ_self _) (Nat.le_of_ble_eq_true rfl)) rfl (fun ls hl => ?_)
    have hl : lv_has ls 7 [(6, .int z4), (5, .int z1), (0, .ref b), (1, .ref (L.2.1 0 0)), (2, .ref (L.2.1 20 0)), (3, .ref (L.2.1 50 0)), (4, .int x4)] := hl
    refine lv_aload_n hx hb d_Lw_law_634 rfl (lv_at hl 4 rfl) ?_
    rcases mm_tc_some h with ⟨z7, g8, hf9, h⟩ | ⟨xe, z7, g8, hf9, h⟩
    · refine mm_goR (v := (some (.int z7))) (mm_goV (As := []) (rest := []) hX (c_Mo_thrown mm_ls20 hf9) yw_Mo_thrown wt_694 wt_695 wt_696 hP hF (mm_recv (h := 20) (i := 0) hX hP mm_ls20 rfl rfl) rfl hl.1 (Nat.le_of_ble_eq_true rfl) (by decide) (by decide) (by omega) (by omega) d_Lw_law_635) hF (fun H locs hP hF hO => ?_)
      have hsc := hO b scr hb0 hsc
      refine lv_iload hx hb d_Lw_law_638 (lv_at hl 1 rfl) ?_
      refine lv_icmp_eq (tgt := 645) hx hb d_Lw_law_640 rfl (fun hc => ?_) (fun hc => ?_)
      · have h := mm_pos hc h
        refine lv_iload hx hb d_Lw_law_645 (lv_at hl 1 rfl) ?_
        refine lv_if_ne (tgt := 662) hx hb d_Lw_law_647 rfl (fun hc => ?_) (fun hc => ?_)
        · have h := mm_neg hc h
          refine lv_goto (tgt := 1316) hx hb d_Lw_law_662 rfl ?_
          cases h
          exact kk _ _ _ _ _ hP hF hsc (lv_sub (l' := [(0, .ref b), (1, .ref (L.2.1 0 0)), (2, .ref (L.2.1 20 0)), (3, .ref (L.2.1 50 0)), (4, .int x4)]) hl [2, 3, 4, 5, 6] rfl) (by omega) (by omega)
        · have h := mm_pos hc h
          refine lv_aload_n hx hb d_Lw_law_650 rfl (lv_at hl 5 rfl) ?_
          refine lv_iconst (v := 0) hx hb d_Lw_law_651 (by decide) ?_
          refine mm_lald hX hP d_Lw_law_652 ?_
          refine lv_iload hx hb d_Lw_law_653 (lv_at hl 0 rfl) ?_
          refine lv_i2l hx hb d_Lw_law_655 rfl ?_
          refine W.lcmp hx hb d_Lw_law_656 ?_
          refine lv_if_eq (tgt := 662) hx hb d_Lw_law_657 rfl (fun hc => ?_) (fun hc => ?_)
          · have h := mm_pos hc h
            refine lv_goto (tgt := 1316) hx hb d_Lw_law_662 rfl ?_
            cases h
            exact kk _ _ _ _ _ hP hF hsc (lv_sub (l' := [(0, .ref b), (1, .ref (L.2.1 0 0)), (2, .ref (L.2.1 20 0)), (3, .ref (L.2.1 50 0)), (4, .int x4)]) hl [2, 3, 4, 5, 6] rfl) (by omega) (by omega)
          · have h := mm_neg hc h
            refine lv_iconst (v := 0) hx hb d_Lw_law_660 (by decide) ?_
            cases h
      · have h := mm_neg hc h
        refine lv_iconst (v := 0) hx hb d_Lw_law_643 (by decide) ?_
        cases h
    · cases h
  · cases h
def f_Lw_case665 (n : Nat) (xs : Nat → Int32) (Ln : Nat) (g : mm_M) (x4 : Int32) : Option mm_M :=
  mm_ix (x4 + 1) Ln (mm_ob (f_Lw_drop n g 0 (xs (x4 + 1).toNatClampNeg) 0) (fun z1 g2 => mm_ix (x4 + 1) Ln (mm_tc (f_Mo_drop n g2 0 (xs (x4 + 1).toNatClampNeg)) (fun z4 g5 => mm_tc (f_Mo_thrown n g5 0) (fun z7 g8 => (if z7 = z1 then (if z1 = 0 then (if (lg_cmp (Int32.toInt64 (g8 50 0 0)) (Int32.toInt64 z4)) = 0 then some g8 else none) else some g8) else none)) (fun _ _ => none)) (fun _ _ => none))))
set_option maxRecDepth 100000 in
set_option maxHeartbeats 4000000 in
theorem w_Lw_case665 {p : Program} {l : Launch} {e : Env} {R : Room} {s : State} {m : MethodId} {args : Array Value} {below : List Frame} {meth : Method} {c : Code} {L : mm_L} {hh : List (Nat × Nat × Nat × Nat)} {Q : State → Prop} {b Ln : Nat} {xs : Nat → Int32} {scr : Cell} {g g' : mm_M} {x4 : Int32} {H : Heap} {locs : List Loc} {ls : Array Slot} {cells slots : Nat} (hX : mm_Xh hh L code 7 "LoanArrowsLaw" (some .boolean) 11 392 p l R s m meth c) (hb0 : ¬ mm_F L b) (hss : mm_scr s scr Ln xs) (h : f_Lw_case665 L.1 xs Ln g x4 = some g') (hP : mm_P L g H) (hF : ∀ q ∈ locs, mm_F L q.base) (hsc : H[b]? = some scr) (hl : lv_has ls 7 [(0, .ref b), (1, .ref (L.2.1 0 0)), (2, .ref (L.2.1 20 0)), (3, .ref (L.2.1 50 0)), (4, .int x4)]) (hcA : cells + 2 ≤ R.cells) (hsA : slots + 12 ≤ R.slots)
    (kk : ∀ (H1 : Heap) (locs1 : List Loc) (ls1 : Array Slot) (cells1 slots1 : Nat), mm_P L g' H1 → (∀ q ∈ locs1, mm_F L q.base) → H1[b]? = some scr → lv_has ls1 7 [(0, .ref b), (1, .ref (L.2.1 0 0)), (2, .ref (L.2.1 20 0)), (3, .ref (L.2.1 50 0)), (4, .int x4)] → cells1 ≤ cells + 1 → slots1 ≤ slots + 6 → W p l e R s m args below meth c H1 locs1 cells1 slots1 Q (F0 m 1316 ls1 [])) : W p l e R s m args below meth c H locs cells slots Q (F0 m 665 ls []) := by
  have hX0 := hX
  obtain ⟨hx, hb, hml, hown, hr, hlk, hex, hRf, hRl, hRc, hRs, hJ, hK, hst, h00⟩ := hX0
  unfold f_Lw_case665 at h
  refine lv_aload_n hx hb d_Lw_law_665 rfl (lv_at hl 1 rfl) ?_
  refine lv_aload_n hx hb d_Lw_law_666 rfl (lv_at hl 0 rfl) ?_
  refine lv_iload hx hb d_Lw_law_667 (lv_at hl 4 rfl) ?_
  refine lv_iconst (v := 1) hx hb d_Lw_law_669 (by decide) ?_
  refine lv_iadd hx hb d_Lw_law_670 ?_
  obtain ⟨hin, h⟩ := mm_ix_some h
  refine mm_sld hX hsc hss hin d_Lw_law_671 ?_
  refine lv_aload_n hx hb d_Lw_law_672 rfl (lv_at hl 3 rfl) ?_
  obtain ⟨⟨z1, g2⟩, hf3, h⟩ := mm_ob_some h
  refine mm_goS1 (As := [.ref (L.2.1 0 0), .int (xs (x4 + 1).toNatClampNeg), .ref (L.2.1 50 0)]) (rest := []) hX (c_Lw_drop mm_ls0 mm_ls50 hf3) wt_515 (by decide +kernel) ⟨by decide +kernel, by decide +kernel⟩ (by show (parseMethodDescriptor (y_Lw_drop).desc).map (fun d => d.parameters.length) = some 3; decide +kernel) wt_513 wt_514 wt_0 hP hF rfl hl.1 (Nat.le_of_ble_eq_true rfl) (by decide) (by decide) (by omega) (by omega) d_Lw_law_673 (fun H locs hP hF hO => ?_)
  have hsc := hO b scr hb0 hsc
  refine lv_istore hx hb d_Lw_law_676 hl (Nat.lt_of_lt_of_le (Nat.lt_succ_self _) (Nat.le_of_ble_eq_true rfl)) rfl (fun ls hl => ?_)
  have hl : lv_has ls 7 [(5, .int z1), (0, .ref b), (1, .ref (L.2.1 0 0)), (2, .ref (L.2.1 20 0)), (3, .ref (L.2.1 50 0)), (4, .int x4)] := hl
  refine lv_aload_n hx hb d_Lw_law_678 rfl (lv_at hl 3 rfl) ?_
  refine lv_aload_n hx hb d_Lw_law_679 rfl (lv_at hl 1 rfl) ?_
  refine lv_iload hx hb d_Lw_law_680 (lv_at hl 5 rfl) ?_
  refine lv_iconst (v := 1) hx hb d_Lw_law_682 (by decide) ?_
  refine lv_iadd hx hb d_Lw_law_683 ?_
  obtain ⟨hin, h⟩ := mm_ix_some h
  refine mm_sld hX hsc hss hin d_Lw_law_684 ?_
  rcases mm_tc_some h with ⟨z4, g5, hf6, h⟩ | ⟨xe, z4, g5, hf6, h⟩
  · refine mm_goR (v := (some (.int z4))) (mm_goV (As := [.int (xs (x4 + 1).toNatClampNeg)]) (rest := []) hX (c_Mo_drop mm_ls20 hf6) yw_Mo_drop wt_804 wt_805 wt_806 hP hF (mm_recv (h := 20) (i := 0) hX hP mm_ls20 rfl rfl) rfl hl.1 (Nat.le_of_ble_eq_true rfl) (by decide) (by decide) (by omega) (by omega) d_Lw_law_685) hF (fun H locs hP hF hO => ?_)
    have hsc := hO b scr hb0 hsc
    refine lv_istore hx hb d_Lw_law_688 hl (Nat.lt_of_lt_of_le (Nat.lt_succ_self _) (Nat.le_of_ble_eq_true rfl)) rfl (fun ls hl => ?_)
    have hl : lv_has ls 7 [(6, .int z4), (5, .int z1), (0, .ref b), (1, .ref (L.2.1 0 0)), (2, .ref (L.2.1 20 0)), (3, .ref (L.2.1 50 0)), (4, .int x4)] := hl
    refine lv_aload_n hx hb d_Lw_law_690 rfl (lv_at hl 4 rfl) ?_
    rcases mm_tc_some h with ⟨z7, g8, hf9, h⟩ | ⟨xe, z7, g8, hf9, h⟩
    · refine mm_goR (v := (some (.int z7))) (mm_goV (As := []) (rest := []) hX (c_Mo_thrown mm_ls20 hf9) yw_Mo_thrown wt_694 wt_695 wt_696 hP hF (mm_recv (h := 20) (i := 0) hX hP mm_ls20 rfl rfl) rfl hl.1 (Nat.le_of_ble_eq_true rfl) (by decide) (by decide) (by omega) (by omega) d_Lw_law_691) hF (fun H locs hP hF hO => ?_)
      have hsc := hO b scr hb0 hsc
      refine lv_iload hx hb d_Lw_law_694 (lv_at hl 1 rfl) ?_
      refine lv_icmp_eq (tgt := 701) hx hb d_Lw_law_696 rfl (fun hc => ?_) (fun hc => ?_)
      · have h := mm_pos hc h
        refine lv_iload hx hb d_Lw_law_701 (lv_at hl 1 rfl) ?_
        refine lv_if_ne (tgt := 718) hx hb d_Lw_law_703 rfl (fun hc => ?_) (fun hc => ?_)
        · have h := mm_neg hc h
          refine lv_goto (tgt := 1316) hx hb d_Lw_law_718 rfl ?_
          cases h
          exact kk _ _ _ _ _ hP hF hsc (lv_sub (l' := [(0, .ref b), (1, .ref (L.2.1 0 0)), (2, .ref (L.2.1 20 0)), (3, .ref (L.2.1 50 0)), (4, .int x4)]) hl [2, 3, 4, 5, 6] rfl) (by omega) (by omega)
        · have h := mm_pos hc h
          refine lv_aload_n hx hb d_Lw_law_706 rfl (lv_at hl 5 rfl) ?_
          refine lv_iconst (v := 0) hx hb d_Lw_law_707 (by decide) ?_
          refine mm_lald hX hP d_Lw_law_708 ?_
          refine lv_iload hx hb d_Lw_law_709 (lv_at hl 0 rfl) ?_
          refine lv_i2l hx hb d_Lw_law_711 rfl ?_
          refine W.lcmp hx hb d_Lw_law_712 ?_
          refine lv_if_eq (tgt := 718) hx hb d_Lw_law_713 rfl (fun hc => ?_) (fun hc => ?_)
          · have h := mm_pos hc h
            refine lv_goto (tgt := 1316) hx hb d_Lw_law_718 rfl ?_
            cases h
            exact kk _ _ _ _ _ hP hF hsc (lv_sub (l' := [(0, .ref b), (1, .ref (L.2.1 0 0)), (2, .ref (L.2.1 20 0)), (3, .ref (L.2.1 50 0)), (4, .int x4)]) hl [2, 3, 4, 5, 6] rfl) (by omega) (by omega)
          · have h := mm_neg hc h
            refine lv_iconst (v := 0) hx hb d_Lw_law_716 (by decide) ?_
            cases h
      · have h := mm_neg hc h
        refine lv_iconst (v := 0) hx hb d_Lw_law_699 (by decide) ?_
        cases h
    · cases h
  · cases h

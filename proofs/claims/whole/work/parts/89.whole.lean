/-! THE CLAIM OUT OF ONE WALK OF THE LAW'S BODY. Your part is whole_start (and what it stands on); all else here is the same for every law, but numbers. -/
def R_law : String := "LoanArrowsLaw"
def lw_P (b : Addr) (xs : List Int32) (args : Array Value) (s : State) : Prop := args = #[.ref b] ∧ s.IntsAt b xs ∧ xs.length ≤ 2050 ∧ (Jvm.Cond.and given_1 narrow_1).before args s = true
def lw_Q (_ : Array Value) (s : State) (o : Outcome) (t : State) : Prop := o = .returned (some (.int 1)) ∧ Framed s o t [] 601024 7293000
def lw_Z (below : List Frame) (a : Array Value) (s : State) : State → Prop := fun t => ∃ o, t.status = .running ∧ Ended t below o ∧ lw_Q a s o t
/-- the law's own end, with 1 on the stack, nothing written that was there before, its room as the claim has it -/
theorem lw_ret {p : Program} {l : Launch} {e : Env} {s : State} {m : MethodId} {below : List Frame} {meth : Method} {c : Code} {b : Nat} (hx : p.tables.exec = Jvm.exec) (hb : c.code = code) (hr : meth.sig.returnType = ret) (hlocks : meth.locks = false) {pc : Nat} {H : Heap} {ls : Array Slot} (hdg : decode code pc = .ok (.ireturn, 1)) : W p l e room_1 s m #[Value.ref b] below meth c H [] 601024 7293000 (lw_Z below #[Value.ref b] s) (F0 m pc ls [.int 1]) := by
  intro T hT X
  obtain ⟨fs, hret, hrun, hended, hW, hframe⟩ := X.leave (v := some (.int 1)) (hlocks := hlocks) (fun h => by rw [hr] at h; cases h)
  have hmeth' : T.vm.method? m = some meth := X.method'
  refine ⟨T.setFrames fs, ?_, .returned (some (.int 1)), hrun, hended, rfl, ⟨_, rfl⟩, hW, hframe⟩
  jvm_step X.here [X.here.top, hx, hb, hdg, hmeth', hr, ret, narrow_b1]
  (try refine ⟨rfl, ?_⟩); (try refine ⟨rfl, ?_⟩)
  first | (intro acts; rw [hret _ acts rfl rfl rfl]) | rw [hret _ _ rfl rfl rfl]
  exact Steps.refl _
/-- what holds at the law's entry: the machine, the code, the tables' words (any of lw_tbl by 'hts w (by decide +kernel)'), the script of L ints xs at the cell b, what the Statement gives of the start (any of its parts by flat_of_before) -/
def lw_At (p : Program) (s : State) (m : MethodId) (meth : Method) (c : Code) (b L : Nat) (xs : Nat → Int32) : Prop :=
  p.tables.exec = Jvm.exec ∧ c.code = code ∧ meth.sig.returnType = ret ∧ c.maxLocals = 7 ∧ s.vm.findClass R_law = some m.cls ∧ (∀ w ∈ lw_tbl, w.before #[Value.ref b] s = true) ∧ va_X b L xs s s.heap ∧ b < s.heap.size ∧ meth.locks = false ∧ (Jvm.Cond.and given_1 narrow_1).before #[Value.ref b] s = true
theorem lw_K {s : State} {b : Nat} {L : mm_L} (hts : ∀ w ∈ lw_tbl, w.before #[Value.ref b] s = true) (hgv : (Jvm.Cond.and given_1 narrow_1).before #[Value.ref b] s = true) (hD : ∀ (c : Nat) (q : vw_C), vwCl[c]? = some q → u_Kn s q.1 q.2.1 q.2.2 (L.2.2.1.1 c) (L.2.2.1.2 c)) (hA : (ArrOfT s (L.2.2.2 0) .int ∧ va_RA s (L.2.2.2 0) .int) ∧ (ArrOfT s (L.2.2.2 1) .boolean ∧ va_RA s (L.2.2.2 1) .boolean) ∧ (ArrOfT s (L.2.2.2 2) (.object "LoanArrows$Copy") ∧ va_RA s (L.2.2.2 2) (.object "LoanArrows$Copy")) ∧ (ArrOfT s (L.2.2.2 3) (.object "LoanArrows$Desk") ∧ va_RA s (L.2.2.2 3) (.object "LoanArrows$Desk")) ∧ (ArrOfT s (L.2.2.2 4) (.object "LoanArrows$Line") ∧ va_RA s (L.2.2.2 4) (.object "LoanArrows$Line")) ∧ (ArrOfT s (L.2.2.2 5) .long ∧ va_RA s (L.2.2.2 5) .long)) : mm_K L s := by
  have hs := flat_of_before _ hgv
  obtain ⟨a0, a1, a2, a3, a4, a5⟩ := hA
  have hcur : ∃ cur, s.vm.findClass "LoanArrows" = some cur := ⟨_, (hD 0 _ rfl).2.1⟩
  obtain ⟨cur, hcur⟩ := hcur
  refine ⟨⟨hD, fun k q hk => ?_⟩, fun w hw a => mm_good_at (List.mem_filter.mp hw).2 (State.WarmedH.refl s) (hts w (ws_tbl hw)), fun w hw a => mm_isN_at (List.mem_filter.mp hw).2 (State.WarmedH.refl s) (hts w (wn_tbl hw)), fun q hq => ?_, sw_at (hts _ tb_l1) (hs _ (by decide +kernel)), sw_at (hts _ tb_l2) (hs _ (by decide +kernel)), fun q hq => ?_⟩
  · match k, hk with
    | 0, hk => cases hk; exact a0
    | 1, hk => cases hk; exact a1
    | 2, hk => cases hk; exact a2
    | 3, hk => cases hk; exact a3
    | 4, hk => cases hk; exact a4
    | 5, hk => cases hk; exact a5
    | k + 6, hk => cases hk
  · unfold mm_str at hq
    simp only [List.mem_cons, List.not_mem_nil, or_false] at hq
    rcases hq with rfl | rfl | rfl | rfl | rfl | rfl | rfl | rfl | rfl | rfl | rfl | rfl | rfl
    · exact str_at hcur (hts _ tb_s216)
    · exact str_at hcur (hts _ tb_s214)
    · exact str_at hcur (hts _ tb_s63)
    · exact str_at hcur (hts _ tb_s74)
    · exact str_at hcur (hts _ tb_s220)
    · exact str_at hcur (hts _ tb_s222)
    · exact str_at hcur (hts _ tb_s96)
    · exact str_at hcur (hts _ tb_s224)
    · exact str_at hcur (hts _ tb_s134)
    · exact str_at hcur (hts _ tb_s218)
    · exact str_at hcur (hts _ tb_s151)
    · exact str_at hcur (hts _ tb_s172)
    · exact str_at hcur (hts _ tb_s174)
  · unfold mm_nc at hq
    simp only [List.mem_cons, List.not_mem_nil, or_false] at hq
    rcases hq with rfl | rfl | rfl
    · exact va_Nc.of (hs _ (by decide +kernel))
    · exact va_Nc.of (hs _ (by decide +kernel))
    · exact va_Nc.of (hs _ (by decide +kernel))
set_option maxRecDepth 100000 in
set_option maxHeartbeats 4000000 in
theorem whole_go {p : Program} {e : Env} {s : State} {m : MethodId} {below : List Frame} {meth : Method} {c : Code} {l : Launch} {b Ln sh : Nat} {xs : Nat → Int32} {scr : Cell} {L : mm_L} {x1 x2 : Int32} (hst : ∀ e : Env, l.admits e → e.platform.stackTraces = false) (hL : Ln ≤ 2050) (hx : p.tables.exec = Jvm.exec) (hb : c.code = code) (hr : meth.sig.returnType = ret) (hml : c.maxLocals = 7) (hown : s.vm.findClass "LoanArrowsLaw" = some m.cls) (hlk : meth.locks = false) (hscr : s.heap[b]? = some scr) (hss : mm_scr s scr Ln xs) (hK : mm_K L s) (hAO : ∀ C ∈ mm_ao, va_AO C s) (had : ∀ h i, L.2.1 h i = adr s.heap.size L.1 h i) (hn2 : 2 ≤ L.1) (hn : L.1 ≤ 12) (hs : sh < 3) (hx1 : p_Lw_cell xs Ln 0 = some x1) (hx2 : p_Lw_cell xs Ln 1 = some x2) (q1 : (x1 < 2 ∧ L.1 = 6) ∨ (¬ x1 < 2 ∧ 12 < x1 ∧ ¬ x1 ≤ 12 ∧ L.1 = 6) ∨ (¬ x1 < 2 ∧ ¬ 12 < x1 ∧ x1 ≤ 12 ∧ x1 = nI L.1)) (q2 : (x2 < 0 ∧ sh = 0) ∨ (¬ x2 < 0 ∧ 2 < x2 ∧ sh = 0) ∨ (¬ x2 < 0 ∧ ¬ 2 < x2 ∧ x2 = nI sh)) (q3 : (x2 = 1 ∧ sh = 1) ∨ (x2 ≠ 1 ∧ x2 = 2 ∧ sh = 2) ∨ (x2 ≠ 1 ∧ x2 ≠ 2 ∧ sh = 0)) : W p l e room_1 s m #[Value.ref b] below meth c s.heap [] 0 0 (lw_Z below #[Value.ref b] s) (entryFrame m ([Value.ref b] : List Value).toArray 7) := by
  obtain ⟨B, hB⟩ : ∃ B, B = s.heap.size := ⟨_, rfl⟩
  have hadf : L.2.1 = adr B L.1 := by
    funext h i
    rw [had h i, hB]
  have hRC : room_1.cells = 601024 := rfl
  have hRS : room_1.slots = 7293000 := rfl
  have hRF : room_1.frames = 11 := rfl
  have hRL : room_1.locals = 392 := rfl
  have hJ : mm_J L := fun h i h' i' w w' e1 => by
    rw [hadf] at e1
    exact lv_inj hn h i h' i' w w' e1
  have hBL : ∀ h i, mm_lv L.1 h i → B ≤ L.2.1 h i := fun h i w => by
    rw [hadf]
    exact (lv_rg hn w).1
  have hBR : ∀ h i, mm_lv L.1 h i → L.2.1 h i < B + 44 + 12 * L.1 := fun h i w => by
    rw [hadf]
    exact (lv_rg hn w).2
  have hbl : b < B := by
    rw [hB]
    exact (Array.getElem?_eq_some_iff.mp hscr).1
  have hY : mm_Yl L code 7 "LoanArrowsLaw" 11 392 (B + 601024) 7293000 B p l room_1 s m c := ⟨hx, hb, hml, hown, Nat.le_of_eq hRF.symm, Nat.le_of_eq hRL.symm, hJ, hK, hB.symm, by rw [hRC]; exact Nat.le_refl _, by rw [hRS]; exact Nat.le_refl _, hAO⟩
  have hts : ∀ w ∈ mm_ws, w.before #[Value.ref b] s = true := fun w hw => hK.2.1 w hw _
  have V0 : mm_V B L (fun _ _ _ => 0) s.heap := by
    refine ⟨fun h i w hlt => ?_, fun q cell hq hc => ?_⟩
    · have := hBL h i w
      omega
    · have := (Array.getElem?_eq_some_iff.mp hc).1
      omega
  have a0 : L.2.1 0 0 = B := by rw [hadf]; rfl
  have a20 : L.2.1 20 0 = B + 18 + 12 * L.1 := by rw [hadf]; rfl
  have a50 : L.2.1 50 0 = B + 43 + 12 * L.1 := by rw [hadf]; rfl
  refine mm_enter (Nat.le_of_ble_eq_true rfl) fun ls hl => ?_
  have hl : lv_has ls 7 [(0, .ref b)] := hl
  refine mm_lnew (h := 0) (i := 0) ty_0 hY V0 mm_ls0 (by rw [a0, hB]) rfl rfl uin_0 tyok_0 (fun j hj => by match j, hj with
      | 0, _ => rfl
      | 1, _ => rfl
      | 2, _ => rfl
      | 3, _ => rfl
      | 4, _ => rfl
      | 5, _ => rfl
      | j + 6, hj => exact absurd hj (by omega)) lk_cLA lk_iLA wt_1 (by rw [hRC]; omega) (by rw [hRS]; omega) d_Lw_law_0 (fun H1 z1 V1 => ?_)
  refine lv_dup hx hb d_Lw_law_3 rfl ?_
  refine lv_aload_n hx hb d_Lw_law_4 rfl (lv_at hl 0 rfl) ?_
  refine lv_iconst (v := 0) hx hb d_Lw_law_5 (by decide) ?_
  refine mm_keep (q := b) (fun z hz => by cases hz) hscr (fun hsc => ?_)
  have hKK : ∀ U : State, U.heap = H1 → s.WarmedH U.vm → U.heap[b]? = some scr ∧ mm_scr U scr Ln xs := fun U hU hW => ⟨by rw [hU]; exact hsc, hss.moved hW.alike⟩
  refine mm_goS0 (nP := 0) (As := [.ref b, .int 0]) (rest := [.ref (L.2.1 0 0), .ref (L.2.1 0 0)]) hx hb hml hown hts (cp_Lw_cell (scr := scr) hx1) yw_Lw_cell lk_mcell lk_scell wt_0 hKK rfl hl.1 (Nat.le_of_ble_eq_true rfl) (by rw [hRF]; decide) (by rw [hRL]; decide) (by rw [hRC]; omega) (by rw [hRS]; omega) d_Lw_law_6 ?_
  refine lv_aload_n hx hb d_Lw_law_9 rfl (lv_at hl 0 rfl) ?_
  refine lv_iconst (v := 1) hx hb d_Lw_law_10 (by decide) ?_
  refine mm_goS0 (nP := 0) (As := [.ref b, .int 1]) (rest := [.int x1, .ref (L.2.1 0 0), .ref (L.2.1 0 0)]) hx hb hml hown hts (cp_Lw_cell (scr := scr) hx2) yw_Lw_cell lk_mcell lk_scell wt_0 hKK rfl hl.1 (Nat.le_of_ble_eq_true rfl) (by rw [hRF]; decide) (by rw [hRL]; decide) (by rw [hRC]; omega) (by rw [hRS]; omega) d_Lw_law_11 ?_
  obtain ⟨g2, y2, v2, hy2, hE, hg2⟩ := i_LA (b := B) (zm := B + 601024) (ym := 7293000) (n := L.1) (sh := sh) (g := mm_row (fun _ _ _ => 0) 0 0 (fun _ => 0)) (x1 := x1) (x2 := x2) (y := 6) hn hn2 hs (by omega) (by omega) row_self q1 q2
  rw [← hadf] at v2
  refine mm_lI (As := [.int x1, .int x2]) (rest := [.ref (L.2.1 0 0)]) (z := B + 1) (yb := 6) hY (cv_LA_init hBL (by rw [a0]; omega) v2) yw_LA_init rfl lk_mLA lk_nLA V1 (by rw [z1, ← hB]) (by omega) rfl (fun z hz => by cases hz) (by omega) (by omega) rfl hl.1 (Nat.le_of_ble_eq_true rfl) (by decide) (by decide) d_Lw_law_14 (fun H2 locs2 c2 V2 z2 hc2 hF2 => ?_)
  refine lv_astore_n hx hb d_Lw_law_17 rfl hl (by decide) rfl (fun ls hl => ?_)
  have hl : lv_has ls 7 [(1, .ref (L.2.1 0 0)), (0, .ref b)] := hl
  refine mm_lnew (h := 20) (i := 0) ty_20 hY V2 mm_ls20 (by rw [a20, z2]) rfl rfl uin_20 tyok_20 (fun j hj => by match j, hj with
      | 0, _ => rfl
      | 1, _ => rfl
      | 2, _ => rfl
      | 3, _ => rfl
      | 4, _ => rfl
      | 5, _ => rfl
      | 6, _ => rfl
      | 7, _ => rfl
      | 8, _ => rfl
      | 9, _ => rfl
      | 10, _ => rfl
      | 11, _ => rfl
      | 12, _ => rfl
      | 13, _ => rfl
      | 14, _ => rfl
      | 15, _ => rfl
      | 16, _ => rfl
      | 17, _ => rfl
      | 18, _ => rfl
      | 19, _ => rfl
      | 20, _ => rfl
      | 21, _ => rfl
      | 22, _ => rfl
      | 23, _ => rfl
      | 24, _ => rfl
      | 25, _ => rfl
      | 26, _ => rfl
      | j + 27, hj => exact absurd hj (by omega)) lk_cMo lk_iMo wt_8 (by rw [hRC]; omega) (by rw [hRS]; omega) d_Lw_law_18 (fun H3 z3 V3 => ?_)
  refine lv_dup hx hb d_Lw_law_21 rfl ?_
  refine lv_aload_n hx hb d_Lw_law_22 rfl (lv_at hl 1 rfl) ?_
  refine lv_iconst (v := 0) hx hb d_Lw_law_23 (by decide) ?_
  refine mm_keep (q := b) (fun z hz => by rw [← hB]; exact hF2 z hz) hscr (fun hsc => ?_)
  have hKK : ∀ U : State, U.heap = H3 → s.WarmedH U.vm → U.heap[b]? = some scr ∧ mm_scr U scr Ln xs := fun U hU hW => ⟨by rw [hU]; exact hsc, hss.moved hW.alike⟩
  refine mm_goS0 (nP := 0) (As := [.ref b, .int 0]) (rest := [.ref (L.2.1 20 0), .ref (L.2.1 20 0)]) hx hb hml hown hts (cp_Lw_cell (scr := scr) hx1) yw_Lw_cell lk_mcell lk_scell wt_0 hKK rfl hl.1 (Nat.le_of_ble_eq_true rfl) (by rw [hRF]; decide) (by rw [hRL]; decide) (by rw [hRC]; omega) (by rw [hRS]; omega) d_Lw_law_24 ?_
  refine lv_aload_n hx hb d_Lw_law_27 rfl (lv_at hl 1 rfl) ?_
  refine lv_iconst (v := 1) hx hb d_Lw_law_28 (by decide) ?_
  refine mm_goS0 (nP := 0) (As := [.ref b, .int 1]) (rest := [.int x1, .ref (L.2.1 20 0), .ref (L.2.1 20 0)]) hx hb hml hown hts (cp_Lw_cell (scr := scr) hx2) yw_Lw_cell lk_mcell lk_scell wt_0 hKK rfl hl.1 (Nat.le_of_ble_eq_true rfl) (by rw [hRF]; decide) (by rw [hRL]; decide) (by rw [hRC]; omega) (by rw [hRS]; omega) d_Lw_law_29 ?_
  obtain ⟨g3, y3, v3, hy3, hE1, hg3⟩ := i_Mo (b := B) (zm := B + 601024) (ym := 7293000) (n := L.1) (sh := sh) (g := mm_row g2 20 0 (fun _ => 0)) (x1 := x1) (x2 := x2) (y := y2 + 27) (z := B + 19 + 12 * L.1) hn rfl (by omega) (by omega) row_self q1 q3
  rw [← hadf] at v3
  refine mm_lI (As := [.int x1, .int x2]) (rest := [.ref (L.2.1 20 0)]) (z := B + 19 + 12 * L.1) (yb := y2 + 27) hY (cv_Mo_init hBL (by rw [a20]; omega) v3) yw_Mo_init rfl lk_mMo lk_nMo V3 (by omega) (by omega) rfl hF2 (by omega) (by omega) rfl hl.1 (Nat.le_of_ble_eq_true rfl) (by decide) (by decide) d_Lw_law_32 (fun H4 locs4 c4 V4 z4 hc4 hF4 => ?_)
  refine lv_astore_n hx hb d_Lw_law_35 rfl hl (by decide) rfl (fun ls hl => ?_)
  have hl : lv_has ls 7 [(2, .ref (L.2.1 20 0)), (1, .ref (L.2.1 0 0)), (0, .ref b)] := hl
  refine lv_iconst (v := 1) hx hb d_Lw_law_36 (by decide) ?_
  refine mm_lnewj hY V4 (by rw [a50, z4]) lk_aJ (by rw [hRC]; omega) (by rw [hRS]; omega) d_Lw_law_37 (fun H5 z5 V5 => ?_)
  refine lv_astore_n hx hb d_Lw_law_39 rfl hl (by decide) rfl (fun ls hl => ?_)
  have hl : lv_has ls 7 [(3, .ref (L.2.1 50 0)), (2, .ref (L.2.1 20 0)), (1, .ref (L.2.1 0 0)), (0, .ref b)] := hl
  refine lv_iconst (v := 2) hx hb d_Lw_law_40 (by decide) ?_
  refine lv_istore hx hb d_Lw_law_41 hl (by decide) rfl (fun ls hl => ?_)
  have hl : lv_has ls 7 [(4, .int (nI 2)), (3, .ref (L.2.1 50 0)), (2, .ref (L.2.1 20 0)), (1, .ref (L.2.1 0 0)), (0, .ref b)] := hl
  refine mm_keep (q := b) (fun z hz => by rw [← hB]; exact hF4 z hz) hscr (fun hsc => ?_)
  refine va_forget (fun z hz => by rw [← hB]; exact hF4 z hz) ?_
  have e0 : E0 L.1 sh (mm_row g3 50 0 (fun _ => 0)) := E0_k hE (fun h hh => by rw [row_k (by omega), hg3 h hh, row_k (by omega)])
  have e1 : E1 L.1 sh (mm_row g3 50 0 (fun _ => 0)) := E1_k hE1 (fun h h1 h2 => by rw [row_k (by omega)])
  have hP : mm_P L (mm_row g3 50 0 (fun _ => 0)) H5 := V_P V5 (fun h i w => by rw [z5, z4]; have := hBR h i w; omega) e0 e1
  have hX : mm_Xh (mm_tab c) L code 7 "LoanArrowsLaw" (some .boolean) 11 392 p l room_1 s m meth c := ⟨hx, hb, hml, hown, hr, hlk, rfl, Nat.le_of_eq hRF.symm, Nat.le_of_eq hRL.symm, by rw [hRC]; decide, by rw [hRS]; decide, hJ, hK, hst, fun q cell hq hc => by
    obtain ⟨h, i, w, rfl⟩ := hq
    have h1 := hBL h i w
    have h2 := (Array.getElem?_eq_some_iff.mp hc).1
    omega⟩
  have hb0 : ¬ mm_F L b := fun hq => by
    obtain ⟨h, i, w, e9⟩ := hq
    have h1 := hBL h i w
    omega
  refine lw_loop hX hb0 hss hs hn hn2 hL (fun H locs ls cells slots hF hc9 hs9 => ?_) 513 0 2 _ H5 [] ls _ _ (LS_0 hn e0 e1) (by omega) (by omega) (by omega) (by omega) (by rw [hRC]; omega) (by rw [hRS]; omega) hP (fun q hq => by cases hq) hsc (lv_sub (l' := [(0, .ref b), (1, .ref (L.2.1 0 0)), (2, .ref (L.2.1 20 0)), (3, .ref (L.2.1 50 0)), (4, .int (nI 2))]) hl [4, 3, 2, 1, 0] rfl)
  rw [hRC] at hc9
  rw [hRS] at hs9
  refine lv_iconst (v := 1) hx hb d_Lw_law_1322 (by decide) ?_
  refine va_forget (fun q hq => by
    obtain ⟨h, i, w, e9⟩ := hF q hq
    rw [← hB, e9]
    exact hBL h i w) ?_
  refine W.widen (show cells ≤ 601024 by omega) (show slots ≤ 7293000 by omega) ?_
  exact lw_ret hx hb hr hlk d_Lw_law_1323
theorem whole_start {p : Program} {e : Env} {s : State} {m : MethodId} {below : List Frame} {meth : Method} {c : Code} (l : Launch) (hfl : l.flags = flags0) {b L : Nat} {xs : Nat → Int32} (hL : L ≤ 2050) (C0 : lw_At p s m meth c b L xs) : W p l e room_1 s m #[Value.ref b] below meth c s.heap [] 0 0 (lw_Z below #[Value.ref b] s) (entryFrame m ([Value.ref b] : List Value).toArray 7) := by
  obtain ⟨hx, hb, hr, hml, hown, hts, ⟨scr, hscr, hof, hkn, hsz, hval⟩, hbl, hlk, hgv⟩ := C0
  obtain ⟨D, hD⟩ := cls_at (fun w hw => hts w (ws_tbl hw))
  obtain ⟨dA, hA⟩ := arr_at hts
  obtain ⟨x1, hx1⟩ := cell_ok xs (Ln := L) (k := 0) hL (by decide)
  obtain ⟨x2, hx2⟩ := cell_ok xs (Ln := L) (k := 1) hL (by decide)
  obtain ⟨n, hn2, hn, q1⟩ := nrm_n x1
  obtain ⟨sh, hs, q2, q3⟩ := nrm_s x2
  exact whole_go (L := (n, adr s.heap.size n, D, dA)) (fun e' ha => Launch.traces_off hfl ha) hL hx hb hr hml hown hlk hscr ⟨hof, hkn, hsz, hval⟩ (lw_K hts hgv hD hA) (fun C hC => by
    unfold mm_ao at hC
    simp only [List.mem_cons, List.not_mem_nil, or_false] at hC
    rcases hC with rfl | rfl | rfl
    · exact va_AO.of (hts _ tb_Copy)
    · exact va_AO.of (hts _ tb_Desk)
    · exact va_AO.of (hts _ tb_Line)) (fun _ _ => rfl) hn2 hn hs hx1 hx2 q1 q2 q3
set_option maxHeartbeats 4000000 in
theorem lw_walk (l : Launch) (hfl : l.flags = flags0) (b : Addr) (xs : List Int32) : MetFree l x (headSpec (Jvm.Cond.code x code maxLocals ret :: tables_1) room_1) (lw_P b xs) (fun _ _ _ _ _ => True) lw_Q := by
  refine MetFree.of_bodyS (code := code) (maxLocals := maxLocals) (ret := ret) (by decide) ?_ ?_
  · intro args s m h hn
    obtain ⟨meth, c, h1, h2, h3, h4, h5, h6, -, -⟩ := Cond.code_spec hn (atoms_spec (ws := Jvm.Cond.code x code maxLocals ret :: tables_1) h _ List.mem_cons_self)
    exact ⟨meth, c, h1, h2, h3, h4, h5, h6⟩
  · intro p e s m args below meth c s₁ B hml0 hP _
    obtain ⟨rfl, hx, hbd, hgv⟩ := hP
    obtain ⟨scr, harrAt, hlist, hof, hsmall⟩ := hx
    obtain ⟨hcb, hkn, -, -⟩ := State.arrayAt?_spec harrAt
    have hown : s.vm.findClass R_law = some m.cls := findClass_of_methodNamed B.named
    have hts0 : ∀ c ∈ (Jvm.Cond.code x code maxLocals ret :: tables_1), c.before #[Value.ref b] s = true := atoms_spec (ws := Jvm.Cond.code x code maxLocals ret :: tables_1) B.pre
    have hts : ∀ w ∈ lw_tbl, w.before #[Value.ref b] s = true := k2_hts_sels lw_privs (fun w hw => hts0 w (List.mem_cons_of_mem _ hw)) lw_privs_ok
    have hml : c.maxLocals = 7 := B.maxLocals_eq (hts0 _ List.mem_cons_self)
    have X₀ : Stand p l e room_1 s m #[Value.ref b] below meth c s₁ [] 0 0 := Stand.of_body B
    have hh0 : s₁.heap = s.heap := by rw [B.state]; rfl
    have hsz : scr.slots.size = xs.length := by rw [← Array.length_toList, hlist, List.length_map]
    have hval : ∀ j : Nat, j < xs.length → scr.slots[j]? = some (.int (xs.getD j 0)) := fun j hj => by
      rw [← Array.getElem?_toList, hlist]
      simp [hj]
    have hbl : b < s.heap.size := (Array.getElem?_eq_some_iff.mp hcb).1
    have hX : va_X b xs.length (fun j => xs.getD j 0) s s.heap := ⟨scr, hcb, hof, hkn, hsz, hval⟩
    have K : W p l e room_1 s m #[Value.ref b] below meth c s₁.heap [] 0 0 (lw_Z below #[Value.ref b] s) (entryFrame m ([Value.ref b] : List Value).toArray 7) := by
      rw [hh0]
      exact whole_start l hfl hbd ⟨B.exec, B.bytes, B.returns, hml, hown, hts, hX, hbl, B.notSynchronized, hgv⟩
    obtain ⟨t, a1, o, b1, b2, b3⟩ := K s₁ rfl X₀
    exact ⟨t, o, a1, b1, b2, b3⟩
theorem lw_pre_spec {args : Array Value} {s : State} (h : (Jvm.Cond.and given_1 narrow_1).before args s = true) (hr : rest_1_c.before args s = true) : ∃ (b : Addr) (xs : List Int32), lw_P b xs args s := by
  have hs := flat_of_before _ h
  have hq := flat_of_before _ hr
  have hc : (Cond.count 1).before args s = true := hs _ (by decide +kernel)
  have harr : (Cond.arrayOf (.arg 0) .int).before args s = true := hs _ (by decide +kernel)
  have hle : (Cond.le (.length (.arg 0)) (.int 2050)).before args s = true := hs _ (by decide +kernel)
  have hlen : (Cond.isInt (.length (.arg 0))).before args s = true := hq _ (by decide +kernel)
  have hall : (Cond.all (.arg 0) (.isInt (.elem (.arg 0) (.index 0)))).before args s = true := hq _ (by decide +kernel)
  obtain ⟨b, xs, hb, hx⟩ := State.ints_of_pre rfl harr hlen hall
  have hsm : xs.length < 2 ^ 31 := hx.choose_spec.2.2.2
  have hev : (Term.length (.arg 0)).eval args s none [] s = some (.int xs.length.toInt32) := hx.length_eval hb
  have hv := Cond.le_ints hev (show (Term.int 2050).eval args s none [] s = some (.int 2050) from rfl)
  have hd : xs.length.toInt32 ≤ 2050 := by
    simpa [Cond.before, Cond.holds, hv] using hle
  have hN : xs.length ≤ 2050 := (Int32.ofNat_le_ofNat hsm (by decide)).mp (show Int32.ofNat xs.length ≤ Int32.ofNat 2050 from hd)
  exact ⟨b, xs, Cond.one_arg hc (show args[0]? = some (.ref b) from hb), hx, hN, h⟩
theorem lw_comes (l : Launch) (hfl : l.flags = flags0) : Comes l x (Jvm.Cond.code x code maxLocals ret :: tables_1) room_1 (fun tb e args s => Calls_1 tb e args s ∧ rest_1 tb e args s ∧ Pre_1 tb e args s)
    (fun _ _ args s o t => lw_Q args s o t) := by
  intro p e ha hc hk s m args below hf hfit hheap happ hpre
  obtain ⟨b, xs, hP⟩ := lw_pre_spec hpre.2.2 hpre.2.1
  obtain ⟨k, o, h1, h2, h3, hQ⟩ := lw_walk l hfl b xs p e ha hc hk s m args below hf ((Spec.applies_iff_loose hf).mp happ).1 hP trivial
  exact ⟨k, o, h1, h2, h3, hQ⟩
theorem lw_frame {s t : State} {o : Outcome} {args : Array Value} (h : Framed s o t [] 601024 7293000) :
    Framed s o t (fieldLocs frame_1_writes args s ++ arrayLocs frame_1_arrays args s ++ staticLocs frame_1_statics s) 601024 7293000 := h
theorem lw_limb (L : Cond) (hL : ∀ (args : Array Value) (s t : State), L.after args s (.returned (some (.int 1))) t = true) :
    ArmFor flags0 classFile x code maxLocals ret World_1 tables_1 room_1 Calls_1 rest_1 Pre_1
      (fun tb e a s o t => postC L tb e a s o t ∧ Framed s o t (fieldLocs frame_1_writes a s ++ arrayLocs frame_1_arrays a s ++ staticLocs frame_1_statics s) 601024 7293000) := by
  intro l hfl _ _ p e ha hc hk s m args below hf hfit hheap happ hpre
  obtain ⟨k, o, h1, h2, h3, rfl, hF⟩ := lw_comes l hfl p e ha hc hk s m args below hf hfit hheap happ hpre
  exact ⟨k, _, h1, h2, h3, hL args s _, lw_frame hF⟩
theorem i_vc : Claimed_1_1 ∧ Claimed_1_2 := ⟨lw_limb limb_1_1 (fun args s t => by simp [limb_1_1, Cond.after, Cond.holds, Cond.value]), lw_limb limb_1_2 (fun args s t => Cond.after_iff.mpr (by
  first | (rw [show limb_1_2 = Cond.eq .result (.int 1) from rfl, Cond.eq_ints (x := 1) (y := 1) rfl rfl]; simp; done) | (simp [limb_1_2, Cond.value, Term.eval]; done)))⟩

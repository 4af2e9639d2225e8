def f_LA_chain (n : Nat) (g : mm_M) (r0 : Nat) (x1 : Int32) (x2 : Int32) : Option (Nat × Int32 × mm_M) :=
  mm_bd (f_LA_requireCopy n g x1) 0 (fun z1 g2 => mm_ix x1 3 (mm_bd (f_Co_chainMember n g2 x1.toNatClampNeg x2) 0 (fun z5 g6 => some (0, z5, g6))))
set_option maxRecDepth 100000 in
set_option maxHeartbeats 4000000 in
theorem w_LA_chain {p : Program} {l : Launch} {e : Env} {R : Room} {s : State} {m : MethodId} {args : Array Value} {below : List Frame} {meth : Method} {c : Code} {L : mm_L} {eo : Nat} {v : Int32} {g' : mm_M} {g : mm_M} {r0 : Nat} {x1 : Int32} {x2 : Int32} {H : Heap} {locs : List Loc} {ls : Array Slot} (hX : mm_X L prog_1_method_18_code 3 "LoanArrows" (some .int) 7 103 p l R s m meth c) (h : f_LA_chain L.1 g r0 x1 x2 = some (eo, v, g')) (hP : mm_P L g H) (hF : ∀ q ∈ locs, mm_F L q.base) (hl : lv_has ls 3 [(0, .ref (L.2.1 0 r0)), (1, .int x1), (2, .int x2)]) (hv_r0 : mm_lv L.1 0 r0) : W p l e R s m args below meth c H locs 0 0 (mm_Q below L s (mm_oi eo v) g') (F0 m 0 ls []) := by
  have hX0 := hX
  obtain ⟨hx, hb, hml, hown, hr, hlk, hex, hRf, hRl, hRc, hRs, hJ, hK, hst, h00⟩ := hX0
  unfold f_LA_chain at h
  refine lv_aload_n hx hb d_LA_chain_0 rfl (lv_at hl 0 rfl) ?_
  refine lv_iload_n hx hb d_LA_chain_1 rfl (lv_at hl 1 rfl) ?_
  rcases mm_bd_some h with ⟨z1, g2, hf3, h⟩ | ⟨xe, z1, g2, hf3, h⟩
  · refine mm_goR (v := none) (mm_goV (As := [.int x1]) (rest := []) hX (c_LA_requireCopy hv_r0 hf3) yw_LA_requireCopy wt_203 wt_205 ws_0_0 hP hF (mm_recv (h := 0) (i := r0) hX hP hv_r0 rfl rfl) rfl hl.1 (Nat.le_of_ble_eq_true rfl) (by decide) (by decide) hRc hRs d_LA_chain_2) hF (fun H locs hP hF _ => ?_)
    refine lv_aload_n hx hb d_LA_chain_5 rfl (lv_at hl 0 rfl) ?_
    refine mm_get (h := 0) (i := r0) 3 hX hP hv_r0 rfl rfl uin_0 (by decide) ⟨rfl, rfl, rfl⟩ wt_159 rfl d_LA_chain_6 ?_
    refine lv_iload_n hx hb d_LA_chain_9 rfl (lv_at hl 1 rfl) ?_
    obtain ⟨hin4, h⟩ := mm_ix_some h
    refine mm_aald (t := 2) (h := 4) (i := 0) hX hP mm_ls4 rfl rfl rfl hin4 d_LA_chain_10 ?_
    refine lv_iload_n hx hb d_LA_chain_11 rfl (lv_at hl 2 rfl) ?_
    rcases mm_bd_some h with ⟨z5, g6, hf7, h⟩ | ⟨xe, z5, g6, hf7, h⟩
    · refine mm_goR (v := (some (.int z5))) (mm_goV (As := [.int x2]) (rest := []) hX (c_Co_chainMember (mm_l5 (n := L.1) hin4) hf7) yw_Co_chainMember wt_576 wt_577 wt_578 hP hF (mm_recv (h := 5) (i := x1.toNatClampNeg) hX hP (mm_l5 (n := L.1) hin4) rfl rfl) rfl hl.1 (Nat.le_of_ble_eq_true rfl) (by decide) (by decide) hRc hRs d_LA_chain_12) hF (fun H locs hP hF _ => ?_)
      cases h
      exact mm_iret hx hb hr hlk hP hF d_LA_chain_15
    · cases h
      exact mm_goT (x := xe + 1) (mm_goV (As := [.int x2]) (rest := []) hX (c_Co_chainMember (mm_l5 (n := L.1) hin4) hf7) yw_Co_chainMember wt_576 wt_577 wt_578 hP hF (mm_recv (h := 5) (i := x1.toNatClampNeg) hX hP (mm_l5 (n := L.1) hin4) rfl rfl) rfl hl.1 (Nat.le_of_ble_eq_true rfl) (by decide) (by decide) hRc hRs d_LA_chain_12) hF hex hlk
  · cases h
    exact mm_goT (x := xe + 1) (mm_goV (As := [.int x1]) (rest := []) hX (c_LA_requireCopy hv_r0 hf3) yw_LA_requireCopy wt_203 wt_205 ws_0_0 hP hF (mm_recv (h := 0) (i := r0) hX hP hv_r0 rfl rfl) rfl hl.1 (Nat.le_of_ble_eq_true rfl) (by decide) (by decide) hRc hRs d_LA_chain_2) hF hex hlk
set_option maxRecDepth 100000 in
set_option maxHeartbeats 4000000 in
theorem c_LA_chain {l : Launch} {L : mm_L} {g g' : mm_M} {eo : Nat} {v : Int32} {r0 : Nat} {x1 : Int32} {x2 : Int32} (hv_r0 : mm_lv L.1 0 r0) (h : f_LA_chain L.1 g r0 x1 x2 = some (eo, v, g')) : mm_C l y_LA_chain prog_1_method_18_code 3 (some .int) 7 103 L [.ref (L.2.1 0 r0), .int x1, .int x2] g (mm_oi eo v) g' := by
  intro p e R s m below meth c hX hP
  refine mm_enter (Nat.le_of_ble_eq_true rfl) fun ls hl => ?_
  exact w_LA_chain hX h hP (fun q hq => by cases hq) (lv_sub (l' := [(0, .ref (L.2.1 0 r0)), (1, .int x1), (2, .int x2)]) hl [0, 1, 2] rfl) hv_r0
def f_LA_served (n : Nat) (g : mm_M) (r0 : Nat) (x1 : Int32) (x2 : Int32) : Option (Nat × Int32 × mm_M) :=
  mm_bd (f_LA_requireCopy n g x1) 0 (fun z1 g2 => mm_ix x1 3 (mm_bd (f_Co_loanAt n g2 x1.toNatClampNeg x2) 0 (fun z5 g6 => some (0, z5, g6))))
set_option maxRecDepth 100000 in
set_option maxHeartbeats 4000000 in
theorem w_LA_served {p : Program} {l : Launch} {e : Env} {R : Room} {s : State} {m : MethodId} {args : Array Value} {below : List Frame} {meth : Method} {c : Code} {L : mm_L} {eo : Nat} {v : Int32} {g' : mm_M} {g : mm_M} {r0 : Nat} {x1 : Int32} {x2 : Int32} {H : Heap} {locs : List Loc} {ls : Array Slot} (hX : mm_X L prog_1_method_19_code 3 "LoanArrows" (some .int) 7 103 p l R s m meth c) (h : f_LA_served L.1 g r0 x1 x2 = some (eo, v, g')) (hP : mm_P L g H) (hF : ∀ q ∈ locs, mm_F L q.base) (hl : lv_has ls 3 [(0, .ref (L.2.1 0 r0)), (1, .int x1), (2, .int x2)]) (hv_r0 : mm_lv L.1 0 r0) : W p l e R s m args below meth c H locs 0 0 (mm_Q below L s (mm_oi eo v) g') (F0 m 0 ls []) := by
  have hX0 := hX
  obtain ⟨hx, hb, hml, hown, hr, hlk, hex, hRf, hRl, hRc, hRs, hJ, hK, hst, h00⟩ := hX0
  unfold f_LA_served at h
  refine lv_aload_n hx hb d_LA_served_0 rfl (lv_at hl 0 rfl) ?_
  refine lv_iload_n hx hb d_LA_served_1 rfl (lv_at hl 1 rfl) ?_
  rcases mm_bd_some h with ⟨z1, g2, hf3, h⟩ | ⟨xe, z1, g2, hf3, h⟩
  · refine mm_goR (v := none) (mm_goV (As := [.int x1]) (rest := []) hX (c_LA_requireCopy hv_r0 hf3) yw_LA_requireCopy wt_203 wt_205 ws_0_0 hP hF (mm_recv (h := 0) (i := r0) hX hP hv_r0 rfl rfl) rfl hl.1 (Nat.le_of_ble_eq_true rfl) (by decide) (by decide) hRc hRs d_LA_served_2) hF (fun H locs hP hF _ => ?_)
    refine lv_aload_n hx hb d_LA_served_5 rfl (lv_at hl 0 rfl) ?_
    refine mm_get (h := 0) (i := r0) 3 hX hP hv_r0 rfl rfl uin_0 (by decide) ⟨rfl, rfl, rfl⟩ wt_159 rfl d_LA_served_6 ?_
    refine lv_iload_n hx hb d_LA_served_9 rfl (lv_at hl 1 rfl) ?_
    obtain ⟨hin4, h⟩ := mm_ix_some h
    refine mm_aald (t := 2) (h := 4) (i := 0) hX hP mm_ls4 rfl rfl rfl hin4 d_LA_served_10 ?_
    refine lv_iload_n hx hb d_LA_served_11 rfl (lv_at hl 2 rfl) ?_
    rcases mm_bd_some h with ⟨z5, g6, hf7, h⟩ | ⟨xe, z5, g6, hf7, h⟩
    · refine mm_goR (v := (some (.int z5))) (mm_goV (As := [.int x2]) (rest := []) hX (c_Co_loanAt (mm_l5 (n := L.1) hin4) hf7) yw_Co_loanAt wt_587 wt_588 wt_589 hP hF (mm_recv (h := 5) (i := x1.toNatClampNeg) hX hP (mm_l5 (n := L.1) hin4) rfl rfl) rfl hl.1 (Nat.le_of_ble_eq_true rfl) (by decide) (by decide) hRc hRs d_LA_served_12) hF (fun H locs hP hF _ => ?_)
      cases h
      exact mm_iret hx hb hr hlk hP hF d_LA_served_15
    · cases h
      exact mm_goT (x := xe + 1) (mm_goV (As := [.int x2]) (rest := []) hX (c_Co_loanAt (mm_l5 (n := L.1) hin4) hf7) yw_Co_loanAt wt_587 wt_588 wt_589 hP hF (mm_recv (h := 5) (i := x1.toNatClampNeg) hX hP (mm_l5 (n := L.1) hin4) rfl rfl) rfl hl.1 (Nat.le_of_ble_eq_true rfl) (by decide) (by decide) hRc hRs d_LA_served_12) hF hex hlk
  · cases h
    exact mm_goT (x := xe + 1) (mm_goV (As := [.int x1]) (rest := []) hX (c_LA_requireCopy hv_r0 hf3) yw_LA_requireCopy wt_203 wt_205 ws_0_0 hP hF (mm_recv (h := 0) (i := r0) hX hP hv_r0 rfl rfl) rfl hl.1 (Nat.le_of_ble_eq_true rfl) (by decide) (by decide) hRc hRs d_LA_served_2) hF hex hlk
set_option maxRecDepth 100000 in
set_option maxHeartbeats 4000000 in
theorem c_LA_served {l : Launch} {L : mm_L} {g g' : mm_M} {eo : Nat} {v : Int32} {r0 : Nat} {x1 : Int32} {x2 : Int32} (hv_r0 : mm_lv L.1 0 r0) (h : f_LA_served L.1 g r0 x1 x2 = some (eo, v, g')) : mm_C l y_LA_served prog_1_method_19_code 3 (some .int) 7 103 L [.ref (L.2.1 0 r0), .int x1, .int x2] g (mm_oi eo v) g' := by
  intro p e R s m below meth c hX hP
  refine mm_enter (Nat.le_of_ble_eq_true rfl) fun ls hl => ?_
  exact w_LA_served hX h hP (fun q hq => by cases hq) (lv_sub (l' := [(0, .ref (L.2.1 0 r0)), (1, .int x1), (2, .int x2)]) hl [0, 1, 2] rfl) hv_r0
def f_LA_leads_b42 (n : Nat) (g : mm_M) (t0 : Int32) : Option (Nat × Int32 × mm_M) :=
  mm_nz t0 (some (0, t0, g))
set_option maxRecDepth 100000 in
set_option maxHeartbeats 4000000 in
theorem w_LA_leads_b42 {p : Program} {l : Launch} {e : Env} {R : Room} {s : State} {m : MethodId} {args : Array Value} {below : List Frame} {meth : Method} {c : Code} {L : mm_L} {eo : Nat} {v : Int32} {g' : mm_M} {g : mm_M} {t0 : Int32} {H : Heap} {locs : List Loc} {ls : Array Slot} (hX : mm_X L prog_1_method_20_code 3 "LoanArrows" (some .boolean) 7 103 p l R s m meth c) (h : f_LA_leads_b42 L.1 g t0 = some (eo, v, g')) (hP : mm_P L g H) (hF : ∀ q ∈ locs, mm_F L q.base) (hl : lv_has ls 3 []) : W p l e R s m args below meth c H locs 0 0 (mm_Q below L s (mm_oi eo v) g') (F0 m 42 ls [.int t0]) := by
  have hX0 := hX
  obtain ⟨hx, hb, hml, hown, hr, hlk, hex, hRf, hRl, hRc, hRs, hJ, hK, hst, h00⟩ := hX0
  unfold f_LA_leads_b42 at h
  obtain ⟨hn, h⟩ := mm_nz_some h
  cases h
  exact mm_zret hx hb hr hn hlk hP hF d_LA_leads_42
def f_LA_leads (n : Nat) (g : mm_M) (r0 : Nat) (x1 : Int32) (x2 : Int32) : Option (Nat × Int32 × mm_M) :=
  mm_bd (f_LA_requireLibrary n g r0 x1) 0 (fun z1 g2 => mm_bd (f_LA_requireCopy n g2 x2) 0 (fun z4 g5 => mm_bd (f_LA_requirePlaced n g5 r0 x2) 0 (fun z7 g8 => mm_ix x2 3 (mm_bd (f_Co_arrowsEnd n g8 x2.toNatClampNeg x1) 0 (fun z11 g12 => mm_ix x2 3 (mm_bd (f_Co_chainEnd n g12 x2.toNatClampNeg) 0 (fun z15 g16 => (if z11 = z15 then f_LA_leads_b42 n g16 1 else f_LA_leads_b42 n g16 0))))))))
set_option maxRecDepth 100000 in
set_option maxHeartbeats 4000000 in
theorem w_LA_leads {p : Program} {l : Launch} {e : Env} {R : Room} {s : State} {m : MethodId} {args : Array Value} {below : List Frame} {meth : Method} {c : Code} {L : mm_L} {eo : Nat} {v : Int32} {g' : mm_M} {g : mm_M} {r0 : Nat} {x1 : Int32} {x2 : Int32} {H : Heap} {locs : List Loc} {ls : Array Slot} (hX : mm_X L prog_1_method_20_code 3 "LoanArrows" (some .boolean) 7 103 p l R s m meth c) (h : f_LA_leads L.1 g r0 x1 x2 = some (eo, v, g')) (hP : mm_P L g H) (hF : ∀ q ∈ locs, mm_F L q.base) (hl : lv_has ls 3 [(0, .ref (L.2.1 0 r0)), (1, .int x1), (2, .int x2)]) (hv_r0 : mm_lv L.1 0 r0) : W p l e R s m args below meth c H locs 0 0 (mm_Q below L s (mm_oi eo v) g') (F0 m 0 ls []) := by
  have hX0 := hX
  obtain ⟨hx, hb, hml, hown, hr, hlk, hex, hRf, hRl, hRc, hRs, hJ, hK, hst, h00⟩ := hX0
  unfold f_LA_leads at h
  refine lv_aload_n hx hb d_LA_leads_0 rfl (lv_at hl 0 rfl) ?_
  refine lv_iload_n hx hb d_LA_leads_1 rfl (lv_at hl 1 rfl) ?_
  rcases mm_bd_some h with ⟨z1, g2, hf3, h⟩ | ⟨xe, z1, g2, hf3, h⟩
  · refine mm_goR (v := none) (mm_goV (As := [.int x1]) (rest := []) hX (c_LA_requireLibrary hv_r0 hf3) yw_LA_requireLibrary wt_275 wt_277 ws_0_2 hP hF (mm_recv (h := 0) (i := r0) hX hP hv_r0 rfl rfl) rfl hl.1 (Nat.le_of_ble_eq_true rfl) (by decide) (by decide) hRc hRs d_LA_leads_2) hF (fun H locs hP hF _ => ?_)
    refine lv_aload_n hx hb d_LA_leads_5 rfl (lv_at hl 0 rfl) ?_
    refine lv_iload_n hx hb d_LA_leads_6 rfl (lv_at hl 2 rfl) ?_
    rcases mm_bd_some h with ⟨z4, g5, hf6, h⟩ | ⟨xe, z4, g5, hf6, h⟩
    · refine mm_goR (v := none) (mm_goV (As := [.int x2]) (rest := []) hX (c_LA_requireCopy hv_r0 hf6) yw_LA_requireCopy wt_203 wt_205 ws_0_0 hP hF (mm_recv (h := 0) (i := r0) hX hP hv_r0 rfl rfl) rfl hl.1 (Nat.le_of_ble_eq_true rfl) (by decide) (by decide) hRc hRs d_LA_leads_7) hF (fun H locs hP hF _ => ?_)
      refine lv_aload_n hx hb d_LA_leads_10 rfl (lv_at hl 0 rfl) ?_
      refine lv_iload_n hx hb d_LA_leads_11 rfl (lv_at hl 2 rfl) ?_
      rcases mm_bd_some h with ⟨z7, g8, hf9, h⟩ | ⟨xe, z7, g8, hf9, h⟩
      · refine mm_goR (v := none) (mm_goV (As := [.int x2]) (rest := []) hX (c_LA_requirePlaced hv_r0 hf9) yw_LA_requirePlaced wt_332 wt_334 ws_0_3 hP hF (mm_recv (h := 0) (i := r0) hX hP hv_r0 rfl rfl) rfl hl.1 (Nat.le_of_ble_eq_true rfl) (by decide) (by decide) hRc hRs d_LA_leads_12) hF (fun H locs hP hF _ => ?_)
        refine lv_aload_n hx hb d_LA_leads_15 rfl (lv_at hl 0 rfl) ?_
        refine mm_get (h := 0) (i := r0) 3 hX hP hv_r0 rfl rfl uin_0 (by decide) ⟨rfl, rfl, rfl⟩ wt_159 rfl d_LA_leads_16 ?_
        refine lv_iload_n hx hb d_LA_leads_19 rfl (lv_at hl 2 rfl) ?_
        obtain ⟨hin10, h⟩ := mm_ix_some h
        refine mm_aald (t := 2) (h := 4) (i := 0) hX hP mm_ls4 rfl rfl rfl hin10 d_LA_leads_20 ?_
        refine lv_iload_n hx hb d_LA_leads_21 rfl (lv_at hl 1 rfl) ?_
        rcases mm_bd_some h with ⟨z11, g12, hf13, h⟩ | ⟨xe, z11, g12, hf13, h⟩
        · refine mm_goR (v := (some (.int z11))) (mm_goV (As := [.int x1]) (rest := []) hX (c_Co_arrowsEnd (mm_l5 (n := L.1) hin10) hf13) yw_Co_arrowsEnd wt_598 wt_599 wt_600 hP hF (mm_recv (h := 5) (i := x2.toNatClampNeg) hX hP (mm_l5 (n := L.1) hin10) rfl rfl) rfl hl.1 (Nat.le_of_ble_eq_true rfl) (by decide) (by decide) hRc hRs d_LA_leads_22) hF (fun H locs hP hF _ => ?_)
          refine lv_aload_n hx hb d_LA_leads_25 rfl (lv_at hl 0 rfl) ?_
          refine mm_get (h := 0) (i := r0) 3 hX hP hv_r0 rfl rfl uin_0 (by decide) ⟨rfl, rfl, rfl⟩ wt_159 rfl d_LA_leads_26 ?_
          refine lv_iload_n hx hb d_LA_leads_29 rfl (lv_at hl 2 rfl) ?_
          obtain ⟨hin14, h⟩ := mm_ix_some h
          refine mm_aald (t := 2) (h := 4) (i := 0) hX hP mm_ls4 rfl rfl rfl hin14 d_LA_leads_30 ?_
          rcases mm_bd_some h with ⟨z15, g16, hf17, h⟩ | ⟨xe, z15, g16, hf17, h⟩
          · refine mm_goR (v := (some (.int z15))) (mm_goV (As := []) (rest := [.int z11]) hX (c_Co_chainEnd (mm_l5 (n := L.1) hin14) hf17) yw_Co_chainEnd wt_602 wt_603 wt_604 hP hF (mm_recv (h := 5) (i := x2.toNatClampNeg) hX hP (mm_l5 (n := L.1) hin14) rfl rfl) rfl hl.1 (Nat.le_of_ble_eq_true rfl) (by decide) (by decide) hRc hRs d_LA_leads_31) hF (fun H locs hP hF _ => ?_)
            refine lv_icmp_ne (tgt := 41) hx hb d_LA_leads_34 rfl (fun hc => ?_) (fun hc => ?_)
            · have h := mm_neg hc h
              refine lv_iconst (v := 0) hx hb d_LA_leads_41 (by decide) ?_
              exact w_LA_leads_b42 hX h hP hF (lv_sub (l' := []) hl [] rfl)
            · have h := mm_pos hc h
              refine lv_iconst (v := 1) hx hb d_LA_leads_37 (by decide) ?_
              refine lv_goto (tgt := 42) hx hb d_LA_leads_38 rfl ?_
              exact w_LA_leads_b42 hX h hP hF (lv_sub (l' := []) hl [] rfl)
          · cases h
            exact mm_goT (x := xe + 1) (mm_goV (As := []) (rest := [.int z11]) hX (c_Co_chainEnd (mm_l5 (n := L.1) hin14) hf17) yw_Co_chainEnd wt_602 wt_603 wt_604 hP hF (mm_recv (h := 5) (i := x2.toNatClampNeg) hX hP (mm_l5 (n := L.1) hin14) rfl rfl) rfl hl.1 (Nat.le_of_ble_eq_true rfl) (by decide) (by decide) hRc hRs d_LA_leads_31) hF hex hlk
        · cases h
          exact mm_goT (x := xe + 1) (mm_goV (As := [.int x1]) (rest := []) hX (c_Co_arrowsEnd (mm_l5 (n := L.1) hin10) hf13) yw_Co_arrowsEnd wt_598 wt_599 wt_600 hP hF (mm_recv (h := 5) (i := x2.toNatClampNeg) hX hP (mm_l5 (n := L.1) hin10) rfl rfl) rfl hl.1 (Nat.le_of_ble_eq_true rfl) (by decide) (by decide) hRc hRs d_LA_leads_22) hF hex hlk
      · cases h
        exact mm_goT (x := xe + 1) (mm_goV (As := [.int x2]) (rest := []) hX (c_LA_requirePlaced hv_r0 hf9) yw_LA_requirePlaced wt_332 wt_334 ws_0_3 hP hF (mm_recv (h := 0) (i := r0) hX hP hv_r0 rfl rfl) rfl hl.1 (Nat.le_of_ble_eq_true rfl) (by decide) (by decide) hRc hRs d_LA_leads_12) hF hex hlk
    · cases h
      exact mm_goT (x := xe + 1) (mm_goV (As := [.int x2]) (rest := []) hX (c_LA_requireCopy hv_r0 hf6) yw_LA_requireCopy wt_203 wt_205 ws_0_0 hP hF (mm_recv (h := 0) (i := r0) hX hP hv_r0 rfl rfl) rfl hl.1 (Nat.le_of_ble_eq_true rfl) (by decide) (by decide) hRc hRs d_LA_leads_7) hF hex hlk
  · cases h
    exact mm_goT (x := xe + 1) (mm_goV (As := [.int x1]) (rest := []) hX (c_LA_requireLibrary hv_r0 hf3) yw_LA_requireLibrary wt_275 wt_277 ws_0_2 hP hF (mm_recv (h := 0) (i := r0) hX hP hv_r0 rfl rfl) rfl hl.1 (Nat.le_of_ble_eq_true rfl) (by decide) (by decide) hRc hRs d_LA_leads_2) hF hex hlk
set_option maxRecDepth 100000 in
set_option maxHeartbeats 4000000 in
theorem c_LA_leads {l : Launch} {L : mm_L} {g g' : mm_M} {eo : Nat} {v : Int32} {r0 : Nat} {x1 : Int32} {x2 : Int32} (hv_r0 : mm_lv L.1 0 r0) (h : f_LA_leads L.1 g r0 x1 x2 = some (eo, v, g')) : mm_C l y_LA_leads prog_1_method_20_code 3 (some .boolean) 7 103 L [.ref (L.2.1 0 r0), .int x1, .int x2] g (mm_oi eo v) g' := by
  intro p e R s m below meth c hX hP
  refine mm_enter (Nat.le_of_ble_eq_true rfl) fun ls hl => ?_
  exact w_LA_leads hX h hP (fun q hq => by cases hq) (lv_sub (l' := [(0, .ref (L.2.1 0 r0)), (1, .int x1), (2, .int x2)]) hl [0, 1, 2] rfl) hv_r0
def f_LA_quiet_l2 (n : Nat) : Nat → mm_M → Nat → Int32 → Option (Nat × Int32 × mm_M)
  | 0, _, _, _ => none
  | k + 1, g, r0, x1 => (if 3 ≤ x1 then mm_bd (f_Ma_isEmpty n g 0) 0 (fun z1 g2 => mm_nz z1 (some (0, z1, g2))) else mm_ix x1 3 ((if (g 5 x1.toNatClampNeg 4) = 0 then f_LA_quiet_l2 n k g r0 (x1 + 1) else mm_nz 0 (some (0, 0, g)))))
set_option maxRecDepth 100000 in
set_option maxHeartbeats 4000000 in
theorem w_LA_quiet_l2 {p : Program} {l : Launch} {e : Env} {R : Room} {s : State} {m : MethodId} {args : Array Value} {below : List Frame} {meth : Method} {c : Code} {L : mm_L} {eo : Nat} {v : Int32} {g' : mm_M} (hX : mm_X L prog_1_method_21_code 2 "LoanArrows" (some .boolean) 2 41 p l R s m meth c) : ∀ (k : Nat) (g : mm_M) (r0 : Nat) (x1 : Int32) (H : Heap) (locs : List Loc) (ls : Array Slot), f_LA_quiet_l2 L.1 k g r0 x1 = some (eo, v, g') → mm_P L g H → (∀ q ∈ locs, mm_F L q.base) → lv_has ls 2 [(0, .ref (L.2.1 0 r0)), (1, .int x1)] → mm_lv L.1 0 r0 → W p l e R s m args below meth c H locs 0 0 (mm_Q below L s (mm_oi eo v) g') (F0 m 2 ls []) := by
  have hX0 := hX
  obtain ⟨hx, hb, hml, hown, hr, hlk, hex, hRf, hRl, hRc, hRs, hJ, hK, hst, h00⟩ := hX0
  intro k
  induction k with
  | zero =>
    intro g r0 x1 H locs ls h hP hF hl hv_r0
    rw [f_LA_quiet_l2] at h
    cases h
  | succ k ih =>
    intro g r0 x1 H locs ls h hP hF hl hv_r0
    rw [f_LA_quiet_l2] at h
    refine lv_iload_n hx hb d_LA_quiet_2 rfl (lv_at hl 1 rfl) ?_
    refine lv_iconst (v := 3) hx hb d_LA_quiet_3 (by decide) ?_
    refine lv_icmp_ge (tgt := 27) hx hb d_LA_quiet_4 rfl (fun hc => ?_) (fun hc => ?_)
    · have h := mm_pos hc h
      refine lv_aload_n hx hb d_LA_quiet_27 rfl (lv_at hl 0 rfl) ?_
      refine mm_get (h := 0) (i := r0) 5 hX hP hv_r0 rfl rfl uin_0 (by decide) ⟨rfl, rfl, rfl⟩ wt_161 rfl d_LA_quiet_28 ?_
      rcases mm_bd_some h with ⟨z1, g2, hf3, h⟩ | ⟨xe, z1, g2, hf3, h⟩
      · refine mm_goR (v := (some (.int z1))) (mm_goV (As := []) (rest := []) hX (c_Ma_isEmpty mm_ls12 hf3) yw_Ma_isEmpty wt_183 wt_184 wt_185 hP hF (mm_recv (h := 12) (i := 0) hX hP mm_ls12 rfl rfl) rfl hl.1 (Nat.le_of_ble_eq_true rfl) (by decide) (by decide) hRc hRs d_LA_quiet_31) hF (fun H locs hP hF _ => ?_)
        obtain ⟨hn, h⟩ := mm_nz_some h
        cases h
        exact mm_zret hx hb hr hn hlk hP hF d_LA_quiet_34
      · cases h
        exact mm_goT (x := xe + 1) (mm_goV (As := []) (rest := []) hX (c_Ma_isEmpty mm_ls12 hf3) yw_Ma_isEmpty wt_183 wt_184 wt_185 hP hF (mm_recv (h := 12) (i := 0) hX hP mm_ls12 rfl rfl) rfl hl.1 (Nat.le_of_ble_eq_true rfl) (by decide) (by decide) hRc hRs d_LA_quiet_31) hF hex hlk
    · have h := mm_neg hc h
      refine lv_aload_n hx hb d_LA_quiet_7 rfl (lv_at hl 0 rfl) ?_
      refine mm_get (h := 0) (i := r0) 3 hX hP hv_r0 rfl rfl uin_0 (by decide) ⟨rfl, rfl, rfl⟩ wt_159 rfl d_LA_quiet_8 ?_
      refine lv_iload_n hx hb d_LA_quiet_11 rfl (lv_at hl 1 rfl) ?_
      obtain ⟨hin4, h⟩ := mm_ix_some h
      refine mm_aald (t := 2) (h := 4) (i := 0) hX hP mm_ls4 rfl rfl rfl hin4 d_LA_quiet_12 ?_
      refine mm_getN (h := 5) (i := x1.toNatClampNeg) 4 hX hP (mm_l5 (n := L.1) hin4) rfl rfl uin_5 (by decide) ⟨rfl, rfl, rfl⟩ wn_87 rfl d_LA_quiet_13 ?_
      refine lv_if_eq (tgt := 21) hx hb d_LA_quiet_16 rfl (fun hc => ?_) (fun hc => ?_)
      · have h := mm_pos hc h
        refine lv_iinc (k := 1) (v := (x1 + 1)) hx hb d_LA_quiet_21 hl rfl (congrArg (fun z => x1 + z) mm_i1) (Nat.lt_of_lt_of_le (Nat.lt_succ_self _) (Nat.le_of_ble_eq_true rfl)) rfl (fun ls hl => ?_)
        have hl : lv_has ls 2 [(1, .int (x1 + 1)), (0, .ref (L.2.1 0 r0))] := hl
        refine lv_goto (tgt := 2) hx hb d_LA_quiet_24 rfl ?_
        exact ih _ _ _ _ _ _ h hP hF (lv_sub (l' := [(0, .ref (L.2.1 0 r0)), (1, .int (x1 + 1))]) hl [1, 0] rfl) hv_r0
      · have h := mm_neg hc h
        refine lv_iconst (v := 0) hx hb d_LA_quiet_19 (by decide) ?_
        obtain ⟨hn, h⟩ := mm_nz_some h
        cases h
        exact mm_zret hx hb hr hn hlk hP hF d_LA_quiet_20
def f_LA_quiet (n : Nat) (g : mm_M) (r0 : Nat) : Option (Nat × Int32 × mm_M) :=
  f_LA_quiet_l2 n 4096 g r0 0
set_option maxRecDepth 100000 in
set_option maxHeartbeats 4000000 in
theorem w_LA_quiet {p : Program} {l : Launch} {e : Env} {R : Room} {s : State} {m : MethodId} {args : Array Value} {below : List Frame} {meth : Method} {c : Code} {L : mm_L} {eo : Nat} {v : Int32} {g' : mm_M} {g : mm_M} {r0 : Nat} {H : Heap} {locs : List Loc} {ls : Array Slot} (hX : mm_X L prog_1_method_21_code 2 "LoanArrows" (some .boolean) 2 41 p l R s m meth c) (h : f_LA_quiet L.1 g r0 = some (eo, v, g')) (hP : mm_P L g H) (hF : ∀ q ∈ locs, mm_F L q.base) (hl : lv_has ls 2 [(0, .ref (L.2.1 0 r0))]) (hv_r0 : mm_lv L.1 0 r0) : W p l e R s m args below meth c H locs 0 0 (mm_Q below L s (mm_oi eo v) g') (F0 m 0 ls []) := by
  have hX0 := hX
  obtain ⟨hx, hb, hml, hown, hr, hlk, hex, hRf, hRl, hRc, hRs, hJ, hK, hst, h00⟩ := hX0
  unfold f_LA_quiet at h
  refine lv_iconst (v := 0) hx hb d_LA_quiet_0 (by decide) ?_
  refine lv_istore_n hx hb d_LA_quiet_1 rfl hl (Nat.lt_of_lt_of_le (Nat.lt_succ_self _) (Nat.le_of_ble_eq_true rfl)) rfl (fun ls hl => ?_)
  have hl : lv_has ls 2 [(1, .int 0), (0, .ref (L.2.1 0 r0))] := hl
  exact w_LA_quiet_l2 hX _ _ _ _ _ _ _ h hP hF (lv_sub (l' := [(0, .ref (L.2.1 0 r0)), (1, .int 0)]) hl [1, 0] rfl) hv_r0
set_option maxRecDepth 100000 in
set_option maxHeartbeats 4000000 in
theorem c_LA_quiet {l : Launch} {L : mm_L} {g g' : mm_M} {eo : Nat} {v : Int32} {r0 : Nat} (hv_r0 : mm_lv L.1 0 r0) (h : f_LA_quiet L.1 g r0 = some (eo, v, g')) : mm_C l y_LA_quiet prog_1_method_21_code 2 (some .boolean) 2 41 L [.ref (L.2.1 0 r0)] g (mm_oi eo v) g' := by
  intro p e R s m below meth c hX hP
  refine mm_enter (Nat.le_of_ble_eq_true rfl) fun ls hl => ?_
  exact w_LA_quiet hX h hP (fun q hq => by cases hq) (lv_sub (l' := [(0, .ref (L.2.1 0 r0))]) hl [0] rfl) hv_r0

theorem mm_ffup (A : Nat → Nat) (w : Nat → Int32) (x : Nat) : (fun j => if upd w x 1 j = 0 then none else some (A j)) = va_up (fun j => if w j = 0 then none else some (A j)) x (some (A x)) := by
  funext q
  by_cases hq : q = x
  · subst hq
    simp [upd, va_up]
  · simp [upd, va_up, hq]
section MMU
variable {p : Program} {l : Launch} {e : Env} {R : Room} {s : State} {m : MethodId} {args : Array Value} {below : List Frame} {meth : Method} {c : Code} {H : Heap} {locs : List Loc} {cells slots : Nat} {Q : State → Prop}
variable {cc : ByteArray} {own : String} {nL fr lo zm ym y0 B : Nat} {L : mm_L} {g : mm_M} {pc index h i b Ln : Nat} {ls : Array Slot} {rest : List Value} {xs : Nat → Int32} {scr : Cell}
theorem mm_vgetR {C ref name desc : String} {T : u_T} {N ci : Nat} {fs : List Value} {x : Int32} {a : Nat} (k : Nat) (hX : mm_Y L cc nL own fr lo zm ym y0 B p l R s m meth c) (hP : mm_V B L g H) (hlv : mm_lv L.1 h i) (hlt : L.2.1 h i < H.size) (hcz : mm_cv L h i (g h i) = .inr (ci, fs)) (hc : vwCl[ci]? = some (C, T, N)) (hin : ∀ w ∈ u_ws C T N, w ∈ mm_ws) (hk : k < N) (hT : (T k).1 = ref ∧ (T k).2.1 = name ∧ (T k).2.2.1 = desc) (hlink : Cond.fieldLink own index ref name desc ∈ mm_ws) (hv : fs[k]? = some (if x = 0 then .null else .ref a)) (hne : x ≠ 0) (hdg : decode cc pc = .ok (.getfield index, 3))
    (kk : W p l e R s m args below meth c H locs cells slots Q (F0 m (pc + 3) ls (.ref a :: rest))) : W p l e R s m args below meth c H locs cells slots Q (F0 m pc ls (.ref (L.2.1 h i) :: rest)) := by
  rw [if_neg hne] at hv
  exact mm_vget k hX hP hlv hlt hcz hc hin hk hT hlink hv hdg kk
theorem mm_sld0 {x : Int32} (hexec : p.tables.exec = Jvm.exec) (hb : c.code = cc) (hsc : H[b]? = some scr) (hss : mm_scr s scr Ln xs) (hin : vp_in x Ln) (hdg : decode cc pc = .ok (.iaload, 1))
    (kk : W p l e R s m args below meth c H locs cells slots Q (F0 m (pc + 1) ls (.int (xs x.toNatClampNeg) :: rest))) : W p l e R s m args below meth c H locs cells slots Q (F0 m pc ls (.int x :: .ref b :: rest)) := by
  obtain ⟨h2, h3, h4, h5⟩ := hss
  have hlt : x.toNatClampNeg < Ln := Nat.not_le.mp fun q => hin (Or.inr q)
  exact W.iald (v := .int (xs x.toNatClampNeg)) hexec hb hsc h2 h3 (by rw [h4]; exact hin) (h5 _ hlt) rfl rfl hdg kk
theorem mm_slen0 (hexec : p.tables.exec = Jvm.exec) (hb : c.code = cc) (hsc : H[b]? = some scr) (hss : mm_scr s scr Ln xs) (hdg : decode cc pc = .ok (.arraylength, 1))
    (kk : W p l e R s m args below meth c H locs cells slots Q (F0 m (pc + 1) ls (.int (Int32.ofNat Ln) :: rest))) : W p l e R s m args below meth c H locs cells slots Q (F0 m pc ls (.ref b :: rest)) := by
  obtain ⟨h2, h3, h4, h5⟩ := hss
  exact W.alen (n := Int32.ofNat Ln) hexec hb hsc h2 (by rw [h4] <;> rfl) rfl rfl hdg kk
theorem mm_scr.moved {u U : State} (hvm : u.vm.Alike U.vm) (h : mm_scr u scr Ln xs) : mm_scr U scr Ln xs := ⟨State.isArrayOf_alike hvm h.1, h.2⟩
end MMU
def mm_lt {α : Type} (a z : Nat) (k : Option α) : Option α := if a < z then k else none
theorem mm_lt_some {α : Type} {a z : Nat} {k : Option α} {x : α} (h : mm_lt a z k = some x) : a < z ∧ k = some x := by
  unfold mm_lt at h
  by_cases hc : a < z
  · rw [if_pos hc] at h
    exact ⟨hc, h⟩
  · rw [if_neg hc] at h
    cases h
def mm_o1 {β : Type} (x : Option Int32) (k : Int32 → Option β) : Option β := match x with
  | none => none
  | some v => k v
theorem mm_o1_some {β : Type} {x : Option Int32} {k : Int32 → Option β} {y : β} (h : mm_o1 x k = some y) : ∃ v, x = some v ∧ k v = some y := by
  rcases x with _ | v
  · cases h
  · exact ⟨v, rfl, h⟩
def mm_gd {α : Type} (z zm y ym : Nat) (k : Option α) : Option α := if z ≤ zm ∧ y ≤ ym then k else none
theorem mm_gd_some {α : Type} {z zm y ym : Nat} {k : Option α} {x : α} (h : mm_gd z zm y ym k = some x) : z ≤ zm ∧ y ≤ ym ∧ k = some x := by
  unfold mm_gd at h
  by_cases hc : z ≤ zm ∧ y ≤ ym
  · rw [if_pos hc] at h
    exact ⟨hc.1, hc.2, h⟩
  · rw [if_neg hc] at h
    cases h
theorem mm_pl {a b z : Nat} (k : Nat) (h : a + b = z) : (a + k) + b = z + k := by omega
theorem mm_ceI (c : ClassId) (N : Nat) : vp_cell c (N, .inl (fun _ => 0)) = arrV c N (fun _ => defaultValue .int) := rfl
theorem mm_ceZ (c : ClassId) (N : Nat) : vp_cell c (N, .inl (fun _ => 0)) = arrV c N (fun _ => defaultValue .boolean) := rfl
def p_Lw_cell (xs : Nat → Int32) (Ln : Nat) (x1 : Int32) : Option Int32 :=
  (if (Int32.ofNat Ln) ≤ x1 then some 0 else mm_ix x1 Ln (some (xs x1.toNatClampNeg)))
set_option maxRecDepth 100000 in
set_option maxHeartbeats 4000000 in
theorem cp_Lw_cell {l : Launch} {b Ln : Nat} {xs : Nat → Int32} {scr : Cell} {x1 : Int32} {v : Int32} (h : p_Lw_cell xs Ln x1 = some v) : mm_C0 l y_Lw_cell method_2_code 2 [.ref b, .int x1] (fun U => U.heap[b]? = some scr ∧ mm_scr U scr Ln xs) v := by
  intro p e R s m below meth c hX hKs
  have hX0 := hX
  obtain ⟨hx, hb, hml, hown, hr, hlk⟩ := hX0
  obtain ⟨hsc, hss⟩ := hKs
  refine mm_enter (Nat.le_of_ble_eq_true rfl) fun ls hl => ?_
  have hl : lv_has ls 2 [(0, .ref b), (1, .int x1)] := hl
  unfold p_Lw_cell at h
  refine lv_iload_n hx hb d_Lw_cell_0 rfl (lv_at hl 1 rfl) ?_
  refine lv_aload_n hx hb d_Lw_cell_1 rfl (lv_at hl 0 rfl) ?_
  refine mm_slen0 hx hb hsc hss d_Lw_cell_2 ?_
  refine lv_icmp_ge (tgt := 12) hx hb d_Lw_cell_3 rfl (fun hc => ?_) (fun hc => ?_)
  · have h := mm_pos hc h
    refine lv_iconst (v := 0) hx hb d_Lw_cell_12 (by decide) ?_
    cases h
    exact mm_ret0 hX d_Lw_cell_13
  · have h := mm_neg hc h
    refine lv_aload_n hx hb d_Lw_cell_6 rfl (lv_at hl 0 rfl) ?_
    refine lv_iload_n hx hb d_Lw_cell_7 rfl (lv_at hl 1 rfl) ?_
    obtain ⟨hin, h⟩ := mm_ix_some h
    refine mm_sld0 hx hb hsc hss hin d_Lw_cell_8 ?_
    refine lv_goto (tgt := 13) hx hb d_Lw_cell_9 rfl ?_
    cases h
    exact mm_ret0 hX d_Lw_cell_13
def p_Tr_parentByShape (x0 : Int32) (x1 : Int32) : Option Int32 :=
  (if x1 = 0 then some ((x0 - 1) / 2) else (if x1 = 1 then some (x0 - 1) else some 0))
set_option maxRecDepth 100000 in
set_option maxHeartbeats 4000000 in
theorem cp_Tr_parentByShape {l : Launch} {x0 : Int32} {x1 : Int32} {v : Int32} (h : p_Tr_parentByShape x0 x1 = some v) : mm_C0 l y_Tr_parentByShape prog_7_method_2_code 2 [.int x0, .int x1] (fun _ => True) v := by
  intro p e R s m below meth c hX hKs
  have hX0 := hX
  obtain ⟨hx, hb, hml, hown, hr, hlk⟩ := hX0
  refine mm_enter (Nat.le_of_ble_eq_true rfl) fun ls hl => ?_
  have hl : lv_has ls 2 [(0, .int x0), (1, .int x1)] := hl
  unfold p_Tr_parentByShape at h
  refine lv_iload_n hx hb d_Tr_parentByShape_0 rfl (lv_at hl 1 rfl) ?_
  refine lv_if_ne (tgt := 10) hx hb d_Tr_parentByShape_1 rfl (fun hc => ?_) (fun hc => ?_)
  · have h := mm_neg hc h
    refine lv_iload_n hx hb d_Tr_parentByShape_10 rfl (lv_at hl 1 rfl) ?_
    refine lv_iconst (v := 1) hx hb d_Tr_parentByShape_11 (by decide) ?_
    refine lv_icmp_ne (tgt := 21) hx hb d_Tr_parentByShape_12 rfl (fun hc => ?_) (fun hc => ?_)
    · have h := mm_neg hc h
      refine lv_iconst (v := 0) hx hb d_Tr_parentByShape_21 (by decide) ?_
      cases h
      exact mm_ret0 hX d_Tr_parentByShape_22
    · have h := mm_pos hc h
      refine lv_iload_n hx hb d_Tr_parentByShape_15 rfl (lv_at hl 0 rfl) ?_
      refine lv_iconst (v := 1) hx hb d_Tr_parentByShape_16 (by decide) ?_
      refine lv_isub hx hb d_Tr_parentByShape_17 ?_
      refine lv_goto (tgt := 22) hx hb d_Tr_parentByShape_18 rfl ?_
      cases h
      exact mm_ret0 hX d_Tr_parentByShape_22
  · have h := mm_pos hc h
    refine lv_iload_n hx hb d_Tr_parentByShape_4 rfl (lv_at hl 0 rfl) ?_
    refine lv_iconst (v := 1) hx hb d_Tr_parentByShape_5 (by decide) ?_
    refine lv_isub hx hb d_Tr_parentByShape_6 ?_
    refine lv_iconst (v := 2) hx hb d_Tr_parentByShape_7 (by decide) ?_
    refine lv_idiv hx hb d_Tr_parentByShape_8 (by decide) ?_
    cases h
    exact mm_ret0 hX d_Tr_parentByShape_9

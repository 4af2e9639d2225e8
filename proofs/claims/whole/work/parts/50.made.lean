def mm_cv (L : mm_L) (h i : Nat) (w : Nat → Int32) : va_E := match h with
  | 0 => .inr (0, [.int (w 0), (if w 1 = 0 then .null else .ref (L.2.1 1 0)), (if w 2 = 0 then .null else .ref (L.2.1 2 0)), (if w 3 = 0 then .null else .ref (L.2.1 4 0)), (if w 4 = 0 then .null else .ref (L.2.1 10 0)), (if w 5 = 0 then .null else .ref (L.2.1 12 0))])
  | 1 => .inl (L.2.2.2 1, L.1, .inl w)
  | 2 => .inr (6, [(if w 0 = 0 then .null else .ref (L.2.1 3 0))])
  | 3 => .inl (L.2.2.2 0, L.1, .inl w)
  | 4 => .inl (L.2.2.2 2, 3, .inr (.inr (.inr (.inr (fun j => if w j = 0 then none else some (L.2.1 5 j))))))
  | 5 => .inr (1, [(if w 0 = 0 then .null else .ref (L.2.1 6 i)), (if w 1 = 0 then .null else .ref (L.2.1 7 i)), .int (w 2), .int (w 3), .int (w 4)])
  | 6 => .inl (L.2.2.2 3, L.1, .inr (.inr (.inr (.inr (fun j => if w j = 0 then none else some (L.2.1 8 (12 * i + j)))))))
  | 7 => .inl (L.2.2.2 0, 200, .inl w)
  | 8 => .inr (2, [(if w 0 = 0 then .null else .ref (L.2.1 9 i)), .int (w 1), .int (w 2), .int (w 3), .int (w 4), .int (w 5)])
  | 9 => .inl (L.2.2.2 0, 4, .inl w)
  | 10 => .inr (5, [(if w 0 = 0 then .null else .ref (L.2.1 11 0)), .int (w 1)])
  | 11 => .inl (L.2.2.2 0, 240, .inl w)
  | 12 => .inr (4, [.int (w 0), (if w 1 = 0 then .null else .ref (L.2.1 2 0)), (if w 2 = 0 then .null else .ref (L.2.1 10 0)), (if w 3 = 0 then .null else .ref (L.2.1 13 0))])
  | 13 => .inl (L.2.2.2 4, (2 * L.1), .inr (.inr (.inr (.inr (fun j => if w j = 0 then none else some (L.2.1 14 j))))))
  | 14 => .inr (3, [(if w 0 = 0 then .null else .ref (L.2.1 15 i)), (if w 1 = 0 then .null else .ref (L.2.1 16 i)), .int (w 2), .int (w 3), .int (w 4)])
  | 15 => .inl (L.2.2.2 0, 4, .inl w)
  | 16 => .inl (L.2.2.2 0, 4, .inl w)
  | 20 => .inr (7, [.int (w 0), .int (w 1), (if w 2 = 0 then .null else .ref (L.2.1 21 0)), (if w 3 = 0 then .null else .ref (L.2.1 22 0)), (if w 4 = 0 then .null else .ref (L.2.1 23 0)), (if w 5 = 0 then .null else .ref (L.2.1 24 0)), (if w 6 = 0 then .null else .ref (L.2.1 25 0)), (if w 7 = 0 then .null else .ref (L.2.1 26 0)), (if w 8 = 0 then .null else .ref (L.2.1 27 0)), (if w 9 = 0 then .null else .ref (L.2.1 28 0)), (if w 10 = 0 then .null else .ref (L.2.1 29 0)), (if w 11 = 0 then .null else .ref (L.2.1 30 0)), (if w 12 = 0 then .null else .ref (L.2.1 31 0)), (if w 13 = 0 then .null else .ref (L.2.1 32 0)), (if w 14 = 0 then .null else .ref (L.2.1 33 0)), (if w 15 = 0 then .null else .ref (L.2.1 34 0)), (if w 16 = 0 then .null else .ref (L.2.1 35 0)), (if w 17 = 0 then .null else .ref (L.2.1 36 0)), (if w 18 = 0 then .null else .ref (L.2.1 37 0)), (if w 19 = 0 then .null else .ref (L.2.1 38 0)), .int (w 20), (if w 21 = 0 then .null else .ref (L.2.1 39 0)), (if w 22 = 0 then .null else .ref (L.2.1 40 0)), (if w 23 = 0 then .null else .ref (L.2.1 41 0)), (if w 24 = 0 then .null else .ref (L.2.1 42 0)), (if w 25 = 0 then .null else .ref (L.2.1 43 0)), (if w 26 = 0 then .null else .ref (L.2.1 44 0))])
  | 21 => .inl (L.2.2.2 0, 12, .inl w)
  | 22 => .inl (L.2.2.2 1, 12, .inl w)
  | 23 => .inl (L.2.2.2 1, 3, .inl w)
  | 24 => .inl (L.2.2.2 0, 36, .inl w)
  | 25 => .inl (L.2.2.2 0, 36, .inl w)
  | 26 => .inl (L.2.2.2 0, 36, .inl w)
  | 27 => .inl (L.2.2.2 0, 36, .inl w)
  | 28 => .inl (L.2.2.2 0, 36, .inl w)
  | 29 => .inl (L.2.2.2 0, 144, .inl w)
  | 30 => .inl (L.2.2.2 0, 3, .inl w)
  | 31 => .inl (L.2.2.2 1, 3, .inl w)
  | 32 => .inl (L.2.2.2 0, 3, .inl w)
  | 33 => .inl (L.2.2.2 0, 600, .inl w)
  | 34 => .inl (L.2.2.2 0, 24, .inl w)
  | 35 => .inl (L.2.2.2 0, 24, .inl w)
  | 36 => .inl (L.2.2.2 0, 24, .inl w)
  | 37 => .inl (L.2.2.2 0, 1536, .inl w)
  | 38 => .inl (L.2.2.2 0, 1536, .inl w)
  | 39 => .inl (L.2.2.2 0, 40, .inl w)
  | 40 => .inl (L.2.2.2 0, 40, .inl w)
  | 41 => .inl (L.2.2.2 0, 40, .inl w)
  | 42 => .inl (L.2.2.2 0, 40, .inl w)
  | 43 => .inl (L.2.2.2 0, 40, .inl w)
  | 44 => .inl (L.2.2.2 0, 40, .inl w)
  | 50 => .inl (L.2.2.2 5, 1, .inr (.inl (fun _ => (w 0).toInt64)))
  | _ => .inr (0, [])
/-! While the system is made: a cell is there as soon as the heap has grown over its place (the places are known ahead); a reference's slot is null until the store's slot says otherwise. -/
def mm_V (B : Nat) (L : mm_L) (g : mm_M) (H : Heap) : Prop := (∀ h i, mm_lv L.1 h i → L.2.1 h i < H.size → va_at L.2.2.1 vwCl (L.2.1 h i, mm_cv L h i (g h i)) H) ∧ ∀ (q : Nat) (cell : Cell), B ≤ q → H[q]? = some cell → cell.vm.isStatics = false
theorem mm_V.set {B : Nat} {L : mm_L} {g : mm_M} {H H1 : Heap} {h i : Nat} {w : Nat → Int32} (hP : mm_V B L g H) (hJ : mm_J L) (hlv : mm_lv L.1 h i) (he : va_at L.2.2.1 vwCl (L.2.1 h i, mm_cv L h i w) H1) (hz : H1.size = H.size) (oq : ∀ q : Nat, q ≠ L.2.1 h i → H1[q]? = H[q]?) : mm_V B L (mm_row g h i w) H1 := by
  refine ⟨fun a b hab hlt => ?_, fun q cell hB hc => ?_⟩
  · by_cases hq : a = h ∧ b = i
    · obtain ⟨rfl, rfl⟩ := hq
      rw [mm_row_eq]
      exact he
    · rw [mm_row_ne hq]
      exact (hP.1 a b hab (by rw [← hz]; exact hlt)).kept (oq _ (fun e => hq (hJ a b h i hab hlv e)))
  · by_cases hq : q = L.2.1 h i
    · obtain ⟨c2, e1, e2⟩ := mm_plain he
      have e1 : H1[L.2.1 h i]? = some c2 := e1
      rw [hq] at hc
      cases Option.some.inj (hc.symm.trans e1)
      rw [e2]
      rfl
    · rw [oq q hq] at hc
      exact hP.2 q cell hB hc
theorem mm_V.new {B : Nat} {L : mm_L} {g : mm_M} {H H1 : Heap} {h i : Nat} {w : Nat → Int32} (hP : mm_V B L g H) (hJ : mm_J L) (hlv : mm_lv L.1 h i) (had : L.2.1 h i = H.size) (he : va_at L.2.2.1 vwCl (L.2.1 h i, mm_cv L h i w) H1) (hz : H1.size = H.size + 1) (oq : ∀ q : Nat, q < H.size → H1[q]? = H[q]?) : mm_V B L (mm_row g h i w) H1 := by
  refine ⟨fun a b hab hlt => ?_, fun q cell hB hc => ?_⟩
  · by_cases hq : a = h ∧ b = i
    · obtain ⟨rfl, rfl⟩ := hq
      rw [mm_row_eq]
      exact he
    · rw [mm_row_ne hq]
      have hne : L.2.1 a b ≠ H.size := fun e => hq (hJ a b h i hab hlv (e.trans had.symm))
      have hl : L.2.1 a b < H.size := by omega
      exact (hP.1 a b hab hl).kept (oq _ hl)
  · have hl : q < H1.size := (Array.getElem?_eq_some_iff.mp hc).1
    by_cases hq : q = H.size
    · obtain ⟨c2, e1, e2⟩ := mm_plain he
      have e1 : H1[L.2.1 h i]? = some c2 := e1
      rw [had] at e1
      rw [hq] at hc
      cases Option.some.inj (hc.symm.trans e1)
      rw [e2]
      rfl
    · rw [oq q (by omega)] at hc
      exact hP.2 q cell hB hc
def mm_ao : List String := ["LoanArrows$Copy", "LoanArrows$Desk", "LoanArrows$Line"]
def mm_Y (L : mm_L) (cc : ByteArray) (nL : Nat) (own : String) (fr lo zm ym y0 B : Nat) (p : Program) (l : Launch) (R : Room) (s : State) (m : MethodId) (meth : Method) (c : Code) : Prop :=
  p.tables.exec = Jvm.exec ∧ c.code = cc ∧ c.maxLocals = nL ∧ s.vm.findClass own = some m.cls ∧ meth.sig.returnType = none ∧ meth.locks = false ∧ fr ≤ R.frames ∧ lo ≤ R.locals ∧ mm_J L ∧ mm_K L s ∧ meth.name = "<init>" ∧ B ≤ s.heap.size ∧ zm ≤ s.heap.size + R.cells ∧ ym ≤ y0 + R.slots ∧ (∀ C ∈ mm_ao, va_AO C s) ∧ ∀ (q : Nat) (cell : Cell), B ≤ q → s.heap[q]? = some cell → cell.vm.isStatics = false
def mm_QV (below : List Frame) (L : mm_L) (s : State) (B y0 : Nat) (g : mm_M) (z y : Nat) : State → Prop := fun t =>
  t.status = .running ∧ s.WarmedH t.vm ∧ mm_V B L g t.heap ∧ t.heap.size = z ∧ Ended t below (.returned none) ∧ ∃ (ks : List Loc) (k n : Nat), s.sameButNew ({ t with vm := s.vm } : State) ks k n ∧ (∀ q ∈ ks, B ≤ q.base) ∧ k + s.heap.size = z ∧ n + y0 = y
def mm_CV (l : Launch) (y : MethodName) (cc : ByteArray) (nL fr lo zm ym B : Nat) (L : mm_L) (av : List Value) (g : mm_M) (z y0 : Nat) (g' : mm_M) (z' y' : Nat) : Prop :=
  ∀ (p : Program) (e : Env) (R : Room) (s : State) (m : MethodId) (below : List Frame) (meth : Method) (c : Code), mm_Y L cc nL y.cls fr lo zm ym y0 B p l R s m meth c → mm_V B L g s.heap → s.heap.size = z →
    W p l e R s m av.toArray below meth c s.heap [] 0 0 (mm_QV below L s B y0 g' z' y') (entryFrame m av.toArray nL)
/-- a cell is made at its place, if the room's ends allow it -/
def mm_al {α : Type} (z a zm y N ym : Nat) (k : Option α) : Option α := if z = a ∧ z + 1 ≤ zm ∧ y + N ≤ ym then k else none
theorem mm_al_some {α : Type} {z a zm y N ym : Nat} {k : Option α} {x : α} (h : mm_al z a zm y N ym k = some x) : z = a ∧ z + 1 ≤ zm ∧ y + N ≤ ym ∧ k = some x := by
  unfold mm_al at h
  by_cases hc : z = a ∧ z + 1 ≤ zm ∧ y + N ≤ ym
  · rw [if_pos hc] at h
    exact ⟨hc.1, hc.2.1, hc.2.2, h⟩
  · rw [if_neg hc] at h
    cases h
/-- a length is as the layout has it -/
def mm_ln {α : Type} (x : Int32) (N : Nat) (k : Option α) : Option α := if x = Int32.ofNat N ∧ N < 100000 then k else none
theorem mm_ln_some {α : Type} {x : Int32} {N : Nat} {k : Option α} {y : α} (h : mm_ln x N k = some y) : x = Int32.ofNat N ∧ N < 100000 ∧ k = some y := by
  unfold mm_ln at h
  by_cases hc : x = Int32.ofNat N ∧ N < 100000
  · rw [if_pos hc] at h
    exact ⟨hc.1, hc.2, h⟩
  · rw [if_neg hc] at h
    cases h
def mm_nn {α : Type} (x : Int32) (k : Option α) : Option α := if x = 0 then none else k
theorem mm_nn_some {α : Type} {x : Int32} {k : Option α} {y : α} (h : mm_nn x k = some y) : x ≠ 0 ∧ k = some y := by
  unfold mm_nn at h
  by_cases hc : x = 0
  · rw [if_pos hc] at h
    cases h
  · rw [if_neg hc] at h
    exact ⟨hc, h⟩
def mm_bv {β : Type} (x : Option (mm_M × Nat × Nat)) (k : mm_M → Nat → Nat → Option β) : Option β := match x with
  | none => none
  | some (g, z, y) => k g z y
theorem mm_bv_some {β : Type} {x : Option (mm_M × Nat × Nat)} {k : mm_M → Nat → Nat → Option β} {y : β} (h : mm_bv x k = some y) : ∃ g z w, x = some (g, z, w) ∧ k g z w = some y := by
  rcases x with _ | ⟨g, z, w⟩
  · cases h
  · exact ⟨g, z, w, rfl, h⟩
/-! calls that leave the heap as it is -/
def mm_Q0 (below : List Frame) (s : State) (v : Int32) : State → Prop := fun t =>
  t.status = .running ∧ s.WarmedH t.vm ∧ t.heap = s.heap ∧ Ended t below (.returned (some (.int v))) ∧ s.sameButNew ({ t with vm := s.vm } : State) [] 0 0
def mm_X0 (cc : ByteArray) (nL : Nat) (own : String) (p : Program) (R : Room) (s : State) (m : MethodId) (meth : Method) (c : Code) : Prop :=
  p.tables.exec = Jvm.exec ∧ c.code = cc ∧ c.maxLocals = nL ∧ s.vm.findClass own = some m.cls ∧ meth.sig.returnType = some .int ∧ meth.locks = false
def mm_C0 (l : Launch) (y : MethodName) (cc : ByteArray) (nL : Nat) (av : List Value) (K : State → Prop) (v : Int32) : Prop :=
  ∀ (p : Program) (e : Env) (R : Room) (s : State) (m : MethodId) (below : List Frame) (meth : Method) (c : Code), mm_X0 cc nL y.cls p R s m meth c → K s →
    W p l e R s m av.toArray below meth c s.heap [] 0 0 (mm_Q0 below s v) (entryFrame m av.toArray nL)
section MMV
variable {p : Program} {l : Launch} {e : Env} {R : Room} {s : State} {m : MethodId} {args : Array Value} {below : List Frame} {meth : Method} {c : Code} {H : Heap} {locs : List Loc} {cells slots : Nat} {Q : State → Prop}
variable {cc cc' : ByteArray} {own : String} {nL nL' fr lo fr' lo' zm ym y0 B : Nat} {L : mm_L} {g g' : mm_M} {pc index h i : Nat} {ls : Array Slot} {rest st As : List Value} {y : MethodName}
theorem mm_ret0 {v : Int32} (hX : mm_X0 cc nL own p R s m meth c) (hdg : decode cc pc = .ok (.ireturn, 1)) : W p l e R s m args below meth c s.heap [] 0 0 (mm_Q0 below s v) (F0 m pc ls [.int v]) := by
  obtain ⟨hexec, hb, -, -, hr, hlk⟩ := hX
  refine mm_mono ?_ (W.iret (Qc := fun _ _ o t => o = .returned (some (.int v)) ∧ t.heap = s.heap) (free := fun _ => False) hexec hb hr (fun t ht _ => ⟨rfl, ht⟩) (fun q hq => by cases hq) hdg hlk)
  rintro t ⟨o, h1, h2, ⟨rfl, h3⟩, ks, ⟨-, h4, h5⟩, h6⟩
  have hk : ks = [] := by
    cases ks with
    | nil => rfl
    | cons a b => exact absurd (h6 a List.mem_cons_self) id
  subst hk
  exact ⟨h1, h4, h3, h2, h5⟩
/-- a static method that leaves the heap as it is -/
theorem mm_goS0 {K : State → Prop} {v : Int32} {nP : Nat} (hexec : p.tables.exec = Jvm.exec) (hb : c.code = cc) (hml : c.maxLocals = nL) (hown : s.vm.findClass own = some m.cls) (hts : ∀ w ∈ mm_ws, w.before args s = true) (hC : mm_C0 l y cc' nL' As K v) (hy : mm_yw y cc' nL' (some .int) As.length) (hlink : Cond.methodLink own index y ∈ mm_ws) (hstat : Cond.static y ∈ mm_ws) (hini : Cond.initialized y.cls ∈ mm_ws)
    (hKK : ∀ U : State, U.heap = H → s.WarmedH U.vm → K U) (hstack : st = As.reverse ++ rest) (hsz : ls.size = nL) (hW : (rest.map fun v => v.category).sum ≤ 8) (hfr : 1 ≤ R.frames) (hlo : 8 + (nL' + 11) ≤ R.locals) (hce : cells ≤ R.cells) (hsl : slots ≤ R.slots) (hdg : decode cc pc = .ok (.invokestatic index, 3))
    (kk : W p l e R s m args below meth c H locs cells slots Q (F0 m (pc + 3) ls (.int v :: rest))) : W p l e R s m args below meth c H locs cells slots Q (F0 m pc ls st) := by
  obtain ⟨hc0, hpl, hnm, hln⟩ := hy
  intro T hT X
  have hcode := hts _ hc0
  obtain ⟨mk, hnamed⟩ := Cond.code_named hcode
  obtain ⟨methM, cM, hmethM, hckM, hbM, hlM, hrM, hlkM, -, hsigM⟩ := Cond.code_spec hnamed hcode
  have hstatic : methM.isStatic = true := Cond.static_spec hnamed hmethM (hts _ hstat)
  obtain ⟨kP, hkP, -⟩ := className_of_methodNamed hnamed
  have hinitP : kP.init = .initialized := Cond.initialized_spec (findClass_of_methodNamed hnamed) hkP (hts _ hini)
  have hlen : As.length = methM.sig.parameters.length := by rw [hsigM] at hln; exact (Option.some.inj hln).symm
  subst hb
  obtain ⟨vm₁, X₁, hstep₁⟩ := X.invokestatic hexec hown (hts _ hlink) hnamed hmethM hstatic hkP hinitP hnm (g := F0 m pc ls st) rfl (argsL := As) (rest := rest) hlen hstack hdg
  have hmk : (T.setVm vm₁).vm.method? mk = some methM := by rw [X₁.warmed.alike.method?]; exact hmethM
  have hnT := X₁.named hnamed
  have hpk : (T.setVm vm₁).plainMethod mk := State.plainMethod.of_named (plainFor_of_name hpl) hnT hmk
  obtain ⟨Y, hin⟩ := X₁.into (g := F0 m pc ls rest) rfl (by rw [hml]; exact hsz) hdg As.toArray (R' := { frames := 0, cells := 0, slots := 0, locals := 0 }) hmk hckM hlkM hpk hfr (by rw [hlM]; show 2 * 0 + (rest.map fun v => v.category).sum + (nL' + 11) + 0 ≤ _; omega) hce hsl
  have hfc : ((T.setVm vm₁).calling (F0 m pc ls rest) mk As.toArray).vm.findClass y.cls = some mk.cls := findClass_of_methodNamed (s := T.setVm vm₁) hnT
  obtain ⟨t, hs, hq1, hq2, hq3, hend, hq4⟩ := hC p e _ _ mk (.java (F0 m pc ls rest) :: below) methM cM ⟨hexec, hbM, hlM, hfc, hrM, hlkM⟩ (hKK _ hT X₁.warmed) (((T.setVm vm₁).setTop (F0 m pc ls rest)).pushFrame (.java (entryFrame mk As.toArray cM.maxLocals))) rfl Y
  rw [hlM] at hin hs
  obtain ⟨T', X', -, -, ht⟩ := X₁.outOf (g := F0 m pc ls rest) rfl hdg hend hq2 hq4
  have hh9 : T'.heap = H := by
    have e1 : T'.heap = t.heap := by rw [ht, mm_heap_top]
    rw [e1, hq3]
    exact hT
  rw [List.append_nil] at X'
  obtain ⟨t2, a1, b1⟩ := kk T' hh9 X'
  refine ⟨t2, hstep₁ t2 fun acts => ?_, b1⟩
  rw [hin acts]
  exact (Steps.weaken (mid := [.java (F0 m pc ls rest)]) hs).trans (ht ▸ a1)
end MMV
section MMW
variable {p : Program} {l : Launch} {e : Env} {R : Room} {s : State} {m : MethodId} {args : Array Value} {below : List Frame} {meth : Method} {c : Code} {H : Heap} {locs : List Loc} {cells slots : Nat} {Q : State → Prop}
variable {cc cc' : ByteArray} {own : String} {nL nL' fr lo fr' lo' zm ym y0 B : Nat} {L : mm_L} {g g' : mm_M} {pc index h i : Nat} {ls : Array Slot} {rest st As : List Value} {y : MethodName}
theorem mm_vone (hP : mm_V B L g H) (hlv : mm_lv L.1 h i) (hlt : L.2.1 h i < H.size) {x : va_E} (hcz : mm_cv L h i (g h i) = x) : va_P L.2.2.1 vwCl [(L.2.1 h i, x)] H := by
  intro k q hk
  have hz : k < 1 := (List.getElem?_eq_some_iff.mp hk).1
  rw [show k = 0 by omega] at hk
  cases hk
  rw [← hcz]
  exact hP.1 h i hlv hlt
theorem mm_apB {a b : List Loc} (h1 : ∀ q ∈ a, B ≤ q.base) (h2 : ∀ q ∈ b, B ≤ q.base) : ∀ q ∈ a ++ b, B ≤ q.base := fun q hq => (List.mem_append.mp hq).elim (h1 q) (h2 q)
theorem mm_vget {C ref name desc : String} {T : u_T} {N ci : Nat} {fs : List Value} {v : Value} (k : Nat) (hX : mm_Y L cc nL own fr lo zm ym y0 B p l R s m meth c) (hP : mm_V B L g H) (hlv : mm_lv L.1 h i) (hlt : L.2.1 h i < H.size) (hcz : mm_cv L h i (g h i) = .inr (ci, fs)) (hc : vwCl[ci]? = some (C, T, N)) (hin : ∀ w ∈ u_ws C T N, w ∈ mm_ws) (hk : k < N) (hT : (T k).1 = ref ∧ (T k).2.1 = name ∧ (T k).2.2.1 = desc) (hlink : Cond.fieldLink own index ref name desc ∈ mm_ws) (hv : fs[k]? = some v) (hdg : decode cc pc = .ok (.getfield index, 3))
    (kk : W p l e R s m args below meth c H locs cells slots Q (F0 m (pc + 3) ls (v :: rest))) : W p l e R s m args below meth c H locs cells slots Q (F0 m pc ls (.ref (L.2.1 h i) :: rest)) := by
  obtain ⟨hexec, hb, hml, hown, -, -, -, -, -, hK, -⟩ := hX
  obtain ⟨rfl, rfl, rfl⟩ := hT
  exact va_get hexec hb (Ts := mm_ws) (fun w hw => hK.2.1 w hw args) hin hown hK.1 (mm_vone hP hlv hlt hcz) 0 rfl hc k hk (hK.2.1 _ hlink args) (fun _ z => z) hv hdg kk
theorem mm_vput {C ref name desc : String} {T : u_T} {N ci : Nat} {fs : List Value} {ty : FieldType} {v : Value} (k : Nat) (x : Int32) (hX : mm_Y L cc nL own fr lo zm ym y0 B p l R s m meth c) (hP : mm_V B L g H) (hF : ∀ q ∈ locs, B ≤ q.base) (hlv : mm_lv L.1 h i) (hlt : L.2.1 h i < H.size) (hBa : B ≤ L.2.1 h i) (hcz : mm_cv L h i (g h i) = .inr (ci, fs)) (hcz' : mm_cv L h i (upd (g h i) k x) = .inr (ci, fs.set k v)) (hc : vwCl[ci]? = some (C, T, N)) (hin : ∀ w ∈ u_ws C T N, w ∈ mm_ws) (ty0 : Nat → FieldType) (hty : ∀ k, k < N → parseFieldDescriptor (T k).2.2.1 = some (ty0 k)) (hnm : ∀ a, a < N → ∀ b, b < N → a ≠ b → (T a).2.1 ≠ (T b).2.1) (hk : k < N) (hT : (T k).1 = ref ∧ (T k).2.1 = name ∧ (T k).2.2.1 = desc) (hfin : (T k).2.2.2 = false ∨ ((T k).2.2.2 = true ∧ ref = own)) (hlink : Cond.fieldLink own index ref name desc ∈ mm_ws) (ht : ty0 k = ty) (hn : narrow ty v = v) (hfit : fits ty v = true) (hl : k < fs.length) (hdg : decode cc pc = .ok (.putfield index, 3))
    (kk : ∀ (H1 : Heap) (locs1 : List Loc), H1.size = H.size → mm_V B L (mm_st g h i k x) H1 → (∀ q ∈ locs1, B ≤ q.base) → W p l e R s m args below meth c H1 locs1 cells slots Q (F0 m (pc + 3) ls rest)) : W p l e R s m args below meth c H locs cells slots Q (F0 m pc ls (v :: .ref (L.2.1 h i) :: rest)) := by
  obtain ⟨hexec, hb, hml, hown, -, -, -, -, hJ, hK, hinit, -⟩ := hX
  obtain ⟨rfl, rfl, rfl⟩ := hT
  subst ht
  have hts : ∀ w ∈ mm_ws, w.before args s = true := fun w hw => hK.2.1 w hw args
  have hap := va_apart (own := own) hts hin ty0 hty hnm hK.1 hc
  obtain ⟨r, h1, cell, q1, q2, q3, q4⟩ := mm_vone hP hlv hlt hcz 0 _ rfl
  have hr : r = (C, T, N) := Option.some.inj (h1.symm.trans hc)
  subst hr
  obtain ⟨hS, hfc, kC, hkC, hkind⟩ := hK.1.1 ci _ hc
  obtain ⟨cf, kf, fi, f, hi, hsl⟩ := hS k hk
  have hlay := hts _ (hin _ (u_in_lay hk))
  unfold u_lay at hlay
  have hst := (u_facts hfc hkC (u_lays hts hin hk) hi).1
  have fin : ∀ H' : Heap, H'[L.2.1 h i]? = some (cell.setSlot f.slot v) → H'.size = H.size → (∀ q, q ≠ L.2.1 h i → H'[q]? = H[q]?) → W p l e R s m args below meth c H' (locs ++ [⟨L.2.1 h i, f.slot⟩]) cells slots Q (F0 m (pc + 3) ls rest) := by
    intro H' e1 e2 e3
    rw [hsl] at e1 ⊢
    refine kk H' _ e2 (hP.set hJ hlv ?_ e2 e3) (mm_apB hF (fun q hq => by rw [List.mem_singleton.mp hq]; exact hBa))
    rw [hcz']
    exact ⟨_, hc, t_OB.to (V := updV (vp_V fs) k v) ⟨_, e1, q2, q3, t_set q4 hap hk v⟩ (fun j _ => vp_updV_set hl v j)⟩
  rcases hfin with hfin | ⟨hfin, hdecl⟩
  · rw [if_neg (by rw [hfin]; decide)] at hlay
    have h6 := u_store hfc hkC hkind hlay hi (hty k hk) hn hfit
    exact W.putK hexec hb (f := f) ⟨hown, hts _ hlink, ⟨_, _, _, hi⟩, hst⟩ (by rw [q2]; exact h6) q1 q3 (by rw [hsl]; exact k2_hasslot (q4 k hk)) rfl rfl hdg fin
  · rw [if_pos hfin] at hlay
    have hcf : m.cls = cf := by
      obtain ⟨_, _, c', _, _, _, -, -, hf', -, -, -, hown2, -⟩ := Cond.laysFinal_spec hlay
      have e1 : c' = cf := by have := hi.symm.trans hf'; simp at this; exact this.1.symm
      rw [hdecl] at hown2
      rw [← e1]; exact Option.some.inj (hown.symm.trans hown2)
    have h6 := u_fits hfc hkC hkind (Or.inr hlay) hi (hty k hk) hn hfit
    exact W.putFinK hexec hb hown (hts _ hlink) hi hst hcf hinit (by rw [q2]; exact h6) q1 q3 (by rw [hsl]; exact k2_hasslot (q4 k hk)) rfl rfl hdg fin
theorem mm_vnew {C : String} {T : u_T} {N ci : Nat} {fs : List Value} (ty : Nat → FieldType) (hX : mm_Y L cc nL own fr lo zm ym y0 B p l R s m meth c) (hP : mm_V B L g H) (hlv : mm_lv L.1 h i) (had : L.2.1 h i = H.size) (hcz : mm_cv L h i (fun _ => 0) = .inr (ci, fs)) (hc : vwCl[ci]? = some (C, T, N)) (hin : ∀ w ∈ u_ws C T N, w ∈ mm_ws) (hty : ∀ k, k < N → parseFieldDescriptor (T k).2.2.1 = some (ty k)) (hfs : ∀ j, j < N → defaultValue (ty j) = vp_V fs j) (hcl : Cond.classLink own index C ∈ mm_ws) (hinst : Cond.instantiable C N ∈ mm_ws) (hini : Cond.initialized C ∈ mm_ws) (hcells : cells + 1 ≤ R.cells) (hslots : slots + N ≤ R.slots) (hdg : decode cc pc = .ok (.new index, 3))
    (kk : ∀ H1 : Heap, H1.size = H.size + 1 → mm_V B L (mm_row g h i (fun _ => 0)) H1 → W p l e R s m args below meth c H1 locs (cells + 1) (slots + N) Q (F0 m (pc + 3) ls (.ref (L.2.1 h i) :: rest))) : W p l e R s m args below meth c H locs cells slots Q (F0 m pc ls rest) := by
  obtain ⟨hexec, hb, hml, hown, -, -, -, -, hJ, hK, -⟩ := hX
  have hts : ∀ w ∈ mm_ws, w.before args s = true := fun w hw => hK.2.1 w hw args
  have hKn := hK.1.1 ci _ hc
  refine W.newcK hexec hb hown (hts _ hcl) (hts _ hinst) (hts _ hini) rfl hdg hcells hslots hKn.2.1 rfl fun H1 kC hkC e1 z1 o1 => ?_
  have := kk H1 z1 (hP.new hJ hlv had (by rw [hcz, had]; exact ⟨_, hc, (u_born ty hts hin hKn hkC e1 hty).to hfs⟩) z1 o1)
  rw [had] at this
  exact this
theorem mm_vnewa {atype : ArrayType} {ty : FieldType} {t N : Nat} {n : Int32} (hX : mm_Y L cc nL own fr lo zm ym y0 B p l R s m meth c) (hP : mm_V B L g H) (hlv : mm_lv L.1 h i) (had : L.2.1 h i = H.size) (hty : newarray.typeOf atype = ty) (hcell : vp_cell (L.2.2.2 t) (N, .inl (fun _ => 0)) = arrV (L.2.2.2 t) N (fun _ => defaultValue ty)) (hcz : mm_cv L h i (fun _ => 0) = .inl (L.2.2.2 t, N, .inl (fun _ => 0))) (ht : (mm_tys L)[t]? = some (L.2.2.2 t, ty)) (hra : va_RA s (L.2.2.2 t) ty → s.vm.findClass ("[" ++ ty.toString) = some (L.2.2.2 t)) (harr : Cond.arrayClass (newarray.typeOf atype) ∈ mm_ws) (hn : n = Int32.ofNat N) (hN : N < 100000) (hbytes : componentBytes ty ≤ 8) (hcells : cells + 1 ≤ R.cells) (hslots : slots + N ≤ R.slots) (hdg : decode cc pc = .ok (.newarray atype, 2))
    (kk : ∀ H1 : Heap, H1.size = H.size + 1 → mm_V B L (mm_row g h i (fun _ => 0)) H1 → W p l e R s m args below meth c H1 locs (cells + 1) (slots + N) Q (F0 m (pc + 2) ls (.ref (L.2.1 h i) :: rest))) : W p l e R s m args below meth c H locs cells slots Q (F0 m pc ls (.int n :: rest)) := by
  obtain ⟨hexec, hb, hml, hown, -, -, -, -, hJ, hK, -⟩ := hX
  subst hn
  subst hty
  have hn0 : ¬ Int32.ofNat N < 0 := nI_pos (n := N) (by omega)
  have hnN : (Int32.ofNat N).toNatClampNeg = N := nI_clamp (n := N) (by omega)
  refine va_newaK hexec hb (hK.2.1 _ harr args) rfl hdg rfl hn0 hnN (Nat.le_trans (Nat.mul_le_mul_left N hbytes) (by omega)) hcells hslots rfl fun H1 cA e1 z1 o1 hAr hNm => ?_
  have hcA : cA = L.2.2.2 t := Option.some.inj (hNm.symm.trans (hra (hK.1.2 t _ ht).2))
  subst hcA
  have := kk H1 z1 (hP.new hJ hlv had (by rw [hcz, had]; show H1[H.size]? = some (vp_cell _ _); rw [hcell]; exact e1) z1 o1)
  rw [had] at this
  exact this
theorem mm_vnewq {C : String} {t N : Nat} {n : Int32} (hX : mm_Y L cc nL own fr lo zm ym y0 B p l R s m meth c) (hP : mm_V B L g H) (hlv : mm_lv L.1 h i) (had : L.2.1 h i = H.size) (hcz : mm_cv L h i (fun _ => 0) = .inl (L.2.2.2 t, N, .inr (.inr (.inr (.inr (fun _ => none)))))) (ht : (mm_tys L)[t]? = some (L.2.2.2 t, .object C)) (hao : C ∈ mm_ao) (hcl : Cond.classLink own index C ∈ mm_ws) (hn : n = Int32.ofNat N) (hN : N < 100000) (hcells : cells + 1 ≤ R.cells) (hslots : slots + N ≤ R.slots) (hdg : decode cc pc = .ok (.anewarray index, 3))
    (kk : ∀ H1 : Heap, H1.size = H.size + 1 → mm_V B L (mm_row g h i (fun _ => 0)) H1 → W p l e R s m args below meth c H1 locs (cells + 1) (slots + N) Q (F0 m (pc + 3) ls (.ref (L.2.1 h i) :: rest))) : W p l e R s m args below meth c H locs cells slots Q (F0 m pc ls (.int n :: rest)) := by
  obtain ⟨hexec, hb, hml, hown, -, -, -, -, hJ, hK, -, -, -, -, hA, -⟩ := hX
  subst hn
  have hn0 : ¬ Int32.ofNat N < 0 := nI_pos (n := N) (by omega)
  have hnN : (Int32.ofNat N).toNatClampNeg = N := nI_clamp (n := N) (by omega)
  refine W.anew hexec hb hown (hK.2.1 _ hcl args) (va_AO.use (hA C hao)) rfl hdg rfl hn0 (by rw [hnN]; omega) hcells (by rw [hnN]; exact hslots) fun cA kA comp f1 f2 f3 f4 => ?_
  rw [hnN]
  obtain ⟨kA2, comp2, r1, r2, r3, r4⟩ := (hK.1.2 t _ ht).2
  have hcA : cA = L.2.2.2 t := Option.some.inj (f1.symm.trans r4)
  subst hcA
  generalize hH1 : H.push ({ cls := L.2.2.2 t, slots := Array.replicate N .null, vm := .none } : Cell) = H1
  have z1 : H1.size = H.size + 1 := by rw [← hH1, Array.size_push]
  have e1 : H1[H.size]? = some (arrV (L.2.2.2 t) N (fun _ => .null)) := by rw [← hH1, Array.getElem?_push_size, ← arrV_new]
  have o1 : ∀ q : Nat, q < H.size → H1[q]? = H[q]? := fun q hq => by rw [← hH1, Array.getElem?_push, if_neg (Nat.ne_of_lt hq)]
  have := kk H1 z1 (hP.new hJ hlv had (by rw [hcz, had]; show H1[H.size]? = some (vp_cell _ _); rw [vp_cell_q]; exact e1) z1 o1)
  rw [had] at this
  exact this
theorem mm_viast {cA : ClassId} {n : Nat} {x v : Int32} (hX : mm_Y L cc nL own fr lo zm ym y0 B p l R s m meth c) (hP : mm_V B L g H) (hF : ∀ q ∈ locs, B ≤ q.base) (hlv : mm_lv L.1 h i) (hlt : L.2.1 h i < H.size) (hBa : B ≤ L.2.1 h i) (hcz : ∀ w, mm_cv L h i w = .inl (cA, n, .inl w)) (ht : (mm_tys L)[0]? = some (cA, .int)) (hin : vp_in x n) (hdg : decode cc pc = .ok (.iastore, 1))
    (kk : ∀ (H1 : Heap) (locs1 : List Loc), H1.size = H.size → mm_V B L (mm_st g h i x.toNatClampNeg v) H1 → (∀ q ∈ locs1, B ≤ q.base) → W p l e R s m args below meth c H1 locs1 cells slots Q (F0 m (pc + 1) ls rest)) : W p l e R s m args below meth c H locs cells slots Q (F0 m pc ls (.int v :: .int x :: .ref (L.2.1 h i) :: rest)) := by
  obtain ⟨hexec, hb, hml, hown, -, -, -, -, hJ, hK, -⟩ := hX
  have h1 := hP.1 h i hlv hlt
  rw [hcz] at h1
  refine W.iast hexec hb h1 ((hK.1.2 0 _ ht).1 n (fun j => .int (g h i j))) (fun q => by cases q) (by show ¬ (x < 0 ∨ (arrV _ _ _).slots.size ≤ _); rw [arrV_size]; exact hin) rfl rfl hdg fun H1 e z oq => ?_
  refine kk H1 _ z (hP.set hJ hlv ?_ z oq) (mm_apB hF (fun q hq => by rw [List.mem_singleton.mp hq]; exact hBa))
  rw [hcz]
  show H1[L.2.1 h i]? = some (vp_cell _ _)
  rw [e, vp_cell_i, vp_cell_i, arrV_store]
  congr 2
  funext q
  by_cases hq : q = x.toNatClampNeg
  · subst hq
    simp [updV, upd]
  · simp [updV, upd, hq]
/-- a reference's place in an array of them is filled -/
theorem mm_vaast {cA : ClassId} {n t h' i' ci : Nat} {x : Int32} {C : String} {T : u_T} {N : Nat} {fs : List Value} {ff : (Nat → Int32) → Nat → Option Nat} (hX : mm_Y L cc nL own fr lo zm ym y0 B p l R s m meth c) (hP : mm_V B L g H) (hF : ∀ q ∈ locs, B ≤ q.base) (hlv : mm_lv L.1 h i) (hlt : L.2.1 h i < H.size) (hBa : B ≤ L.2.1 h i) (hcz : ∀ w, mm_cv L h i w = .inl (cA, n, .inr (.inr (.inr (.inr (ff w)))))) (ht : (mm_tys L)[t]? = some (cA, .object C)) (hlv' : mm_lv L.1 h' i') (hlt' : L.2.1 h' i' < H.size) (hcz' : mm_cv L h' i' (g h' i') = .inr (ci, fs)) (hc : vwCl[ci]? = some (C, T, N))
    (hff : ∀ w, ff (upd w x.toNatClampNeg 1) = va_up (ff w) x.toNatClampNeg (some (L.2.1 h' i'))) (hin : vp_in x n) (hdg : decode cc pc = .ok (.aastore, 1))
    (kk : ∀ (H1 : Heap) (locs1 : List Loc), H1.size = H.size → mm_V B L (mm_st g h i x.toNatClampNeg 1) H1 → (∀ q ∈ locs1, B ≤ q.base) → W p l e R s m args below meth c H1 locs1 cells slots Q (F0 m (pc + 1) ls rest)) : W p l e R s m args below meth c H locs cells slots Q (F0 m pc ls (.ref (L.2.1 h' i') :: .int x :: .ref (L.2.1 h i) :: rest)) := by
  obtain ⟨hexec, hb, hml, hown, -, -, -, -, hJ, hK, -⟩ := hX
  have hlt9 : x.toNatClampNeg < n := Nat.not_le.mp fun q => hin (Or.inr q)
  have h0 : ¬ x < 0 := fun q => hin (Or.inl q)
  have h1 := hP.1 h i hlv hlt
  rw [hcz] at h1
  obtain ⟨r', hr', cellV, g1, g2, g3, -⟩ := mm_vone hP hlv' hlt' hcz' 0 _ rfl
  have hcls := (hK.1.1 ci _ hc).2
  obtain ⟨kA, comp, k1, k2, k3, -⟩ := (hK.1.2 t _ ht).2
  have hcomp : comp = L.2.2.1.1 ci := Option.some.inj (k3.symm.trans hcls.1)
  subst hcomp
  obtain ⟨kC, hkC, -⟩ := hcls.2
  refine W.aast hexec hb h1 (fun q h => by cases h) (fun h => by cases h) k1 k2 rfl hkC ⟨h0, by show _ < (arrV _ _ _).slots.size; rw [arrV_size]; exact hlt9⟩ g1 (fun q h => by rw [g3] at h; cases h) (by rw [g2]; exact hkC) (by rw [g2]; exact va_assign hcls) rfl rfl hdg fun H1 e z oq => ?_
  refine kk H1 _ z (hP.set hJ hlv ?_ z oq) (mm_apB hF (fun q hq => by rw [List.mem_singleton.mp hq]; exact hBa))
  rw [hcz, hff]
  show H1[L.2.1 h i]? = some (vp_cell _ _)
  rw [e, vp_cell_q, vp_cell_q, arrV_store]
  congr 2
  funext q
  by_cases hq : q = x.toNatClampNeg
  · subst hq
    simp [updV, va_up, va_rf]
  · simp [updV, va_up, hq]
theorem mm_valen {cA : ClassId} {t : Nat} {ty : FieldType} {x : vp_A} {v : Int32} (hX : mm_Y L cc nL own fr lo zm ym y0 B p l R s m meth c) (hP : mm_V B L g H) (hlv : mm_lv L.1 h i) (hlt : L.2.1 h i < H.size) (hcz : mm_cv L h i (g h i) = .inl (cA, x)) (ht : (mm_tys L)[t]? = some (cA, ty)) (hv : Int32.ofNat x.1 = v) (hdg : decode cc pc = .ok (.arraylength, 1))
    (kk : W p l e R s m args below meth c H locs cells slots Q (F0 m (pc + 1) ls (.int v :: rest))) : W p l e R s m args below meth c H locs cells slots Q (F0 m pc ls (.ref (L.2.1 h i) :: rest)) := by
  obtain ⟨hexec, hb, hml, hown, -, -, -, -, -, hK, -⟩ := hX
  exact va_alen hexec hb hK.1 (mm_vone hP hlv hlt hcz) 0 t rfl ht hv hdg kk
theorem mm_vobj (hX : mm_Y L cc nL own fr lo zm ym y0 B p l R s m meth c) {a : Nat} (hlink : Cond.methodLink own index Lib.objectInit ∈ mm_ws) (hinst : Cond.instanceMethod Lib.objectInit ∈ mm_ws) (hcode : Cond.code Lib.objectInit ⟨#[0xb1]⟩ 1 none ∈ mm_ws) (hsz : ls.size = nL) (hfr : 1 ≤ fr) (hlo : (rest.map fun v => v.category).sum + 12 ≤ lo) (hdg : decode cc pc = .ok (.invokespecial index, 3))
    (kk : W p l e R s m args below meth c H locs cells slots Q (F0 m (pc + 3) ls rest)) : W p l e R s m args below meth c H locs cells slots Q (F0 m pc ls (.ref a :: rest)) := by
  obtain ⟨hexec, hb, hml, hown, -, -, hRf, hRl, -, hK, -⟩ := hX
  exact W.objInit hexec hb hown (hK.2.1 _ hlink args) (hK.2.1 _ hinst args) (hK.2.1 _ hcode args) rfl (by rw [hml]; exact hsz) rfl hdg (by omega) (by show 2 * 0 + _ + 12 ≤ _; omega) kk
theorem mm_vvret {z yy : Nat} (hX : mm_Y L cc nL own fr lo zm ym y0 B p l R s m meth c) (hP : mm_V B L g H) (hF : ∀ q ∈ locs, B ≤ q.base) (hz : H.size = z) (hcs : cells + s.heap.size = z) (hsy : slots + y0 = yy) (hdg : decode cc pc = .ok (.return_, 1)) :
    W p l e R s m args below meth c H locs cells slots (mm_QV below L s B y0 g z yy) (F0 m pc ls []) := by
  obtain ⟨hexec, hb, hml, hown, hr, hlk, -⟩ := hX
  refine mm_mono ?_ (W.vret (Qc := fun _ _ o t => o = .returned none ∧ t.heap = H) (free := fun q => B ≤ q) hexec hb hr (fun t ht _ => ⟨rfl, ht⟩) hF hdg hlk)
  rintro t ⟨o, h1, h2, ⟨rfl, h3⟩, ks, ⟨-, h4, h5⟩, h6⟩
  exact ⟨h1, h4, by rw [h3]; exact hP, by rw [h3]; exact hz, h2, ks, cells, slots, h5, h6, hcs, hsy⟩
theorem mm_vrun {T : State} {a : Nat} {z yb z' y' : Nat} (hX : mm_Y L cc nL own fr lo zm ym y0 B p l R s m meth c) (hC : mm_CV l y cc' nL' fr' lo' zm ym B L (.ref a :: As) g z yb g' z' y') (X : Stand p l e R s m args below meth c T locs cells slots) (hP : mm_V B L g T.heap) (hz : T.heap.size = z) (hcs : cells + s.heap.size = z) (hsy : slots + y0 = yb) (hF : ∀ q ∈ locs, B ≤ q.base) (hzm : z ≤ zm) (hym : yb ≤ ym)
    {f : JFrame} (hg : f.method = m) (hsize : f.locals.size = c.maxLocals) {ig : Instr} {len : Nat} (hdg : decode c.code f.pc = .ok (ig, len)) {mk : MethodId} (hn : s.methodNamed? y = some mk) (hcode : (Cond.code y cc' nL' none).before args s = true) (hpl : plainName y.cls = true) (hy1 : y.name = "<init>")
    (hfr : fr' + 1 ≤ fr) (hlo : 8 + (nL' + 11) + lo' ≤ lo) (hW : 2 * f.monitorRoom + (f.stack.map fun v => v.category).sum ≤ 8) :
    ∃ (T' : State) (ks : List Loc) (k n : Nat), Stand p l e R s m args below meth c T' (locs ++ ks) (cells + k) (slots + n) ∧ (∀ q ∈ ks, B ≤ q.base) ∧ mm_V B L g' T'.heap ∧ T'.heap.size = z' ∧ cells + k + s.heap.size = z' ∧ slots + n + y0 = y' ∧ z ≤ z' ∧
      ∀ acts, Steps p.tables e below (doInvoke e (T.setTop f) acts mk (Value.ref a :: As).toArray).1 (T'.setTop { f with pc := f.pc + len, stack := f.stack }) := by
  obtain ⟨hexec, hb, hml, hown, hr, hlk, hRf, hRl, hJ, hK, hin0, hB, hRc, hRs, hA, hNS⟩ := hX
  have hnT : T.methodNamed? y = some mk := X.named hn
  obtain ⟨methk, ck, hmk0, hck, hbk, hlk2, hrk, hlocks, hexk, -⟩ := Cond.code_spec hn hcode
  have hmk : T.vm.method? mk = some methk := by rw [X.warmed.alike.method?]; exact hmk0
  have hpk : T.plainMethod mk := State.plainMethod.of_named (plainFor_of_name hpl) hnT hmk
  obtain ⟨Y, hin⟩ := X.into hg hsize hdg (Value.ref a :: As).toArray (R' := { frames := fr', cells := zm - z, slots := ym - yb, locals := lo' }) hmk hck hlocks hpk (by show fr' + 1 ≤ _; omega) (by rw [hlk2]; show _ + _ + (nL' + 11) + lo' ≤ _; omega) (by show cells + (zm - z) ≤ _; omega) (by show slots + (ym - yb) ≤ _; omega)
  have hstill : ∀ (q : Nat) (cell : Cell), s.heap[q]? = some cell → cell.vm.isStatics = true → T.heap[q]? = some cell := by
    intro q cell hc hi
    have hs : s.sameButNew ({ T with vm := s.vm } : State) locs cells slots := X.same
    refine mm_frame hs (fun w hw e1 => ?_) hc
    have h1 := hNS q cell (by rw [← e1]; exact hF w hw) hc
    rw [hi] at h1
    cases h1
  have hK' : mm_K L (T.calling f mk (Value.ref a :: As).toArray) := hK.to (U := T.calling f mk (Value.ref a :: As).toArray) X.warmed hstill
  have hfc : (T.calling f mk (Value.ref a :: As).toArray).vm.findClass y.cls = some mk.cls := findClass_of_methodNamed (s := T) hnT
  have hnm : methk.name = "<init>" := by rw [(name_of_methodNamed hn hmk0).1]; exact hy1
  have hXk : mm_Y L cc' nL' y.cls fr' lo' zm ym yb B p l { frames := fr', cells := zm - z, slots := ym - yb, locals := lo' } (T.calling f mk (Value.ref a :: As).toArray) mk methk ck := ⟨hexec, hbk, hlk2, hfc, hrk, hlocks, Nat.le_refl _, Nat.le_refl _, hJ, hK', hnm, by show B ≤ T.heap.size; omega, by show zm ≤ T.heap.size + (zm - z); omega, by show ym ≤ yb + (ym - yb); omega, fun C hC => va_AO.moved X.warmed.alike (hA C hC), hP.2⟩
  obtain ⟨t, hs, hq1, hq2, hq3, hq3z, hend, ks, k, n, hq4, hq5, hq6, hq7⟩ := hC p e _ _ mk (.java f :: below) methk ck hXk hP hz ((T.setTop f).pushFrame (.java (entryFrame mk (Value.ref a :: As).toArray ck.maxLocals))) rfl Y
  rw [hlk2] at hin hs
  have hs' : ∀ acts, Steps p.tables e below (doInvoke e (T.setTop f) acts mk (Value.ref a :: As).toArray).1 t := fun acts => by rw [hin acts]; exact Steps.weaken (mid := [.java f]) hs
  obtain ⟨T', X', -, -, ht⟩ := X.outOf hg hdg hend hq2 hq4
  have hh9 : T'.heap = t.heap := by rw [ht, mm_heap_top]
  have hq6 : k + T.heap.size = z' := hq6
  exact ⟨T', ks, k, n, X', hq5, by rw [hh9]; exact hq3, by rw [hh9]; exact hq3z, by omega, by omega, by omega, fun acts => ht ▸ hs' acts⟩
theorem mm_vI {a : Nat} {z yb z' y' : Nat} (hX : mm_Y L cc nL own fr lo zm ym y0 B p l R s m meth c) (hC : mm_CV l y cc' nL' fr' lo' zm ym B L (.ref a :: As) g z yb g' z' y') (hy : mm_yw y cc' nL' none As.length) (hy1 : y.name = "<init>") (hlink : Cond.methodLink own index y ∈ mm_ws) (hinst : Cond.instanceMethod y ∈ mm_ws) (hP : mm_V B L g H) (hz : H.size = z) (hcs : cells + s.heap.size = z) (hsy : slots + y0 = yb) (hF : ∀ q ∈ locs, B ≤ q.base) (hzm : z ≤ zm) (hym : yb ≤ ym) (hstack : st = As.reverse ++ .ref a :: rest) (hsz : ls.size = nL) (hW : (rest.map fun v => v.category).sum ≤ 8) (hfr : fr' + 1 ≤ fr) (hlo : 8 + (nL' + 11) + lo' ≤ lo) (hdg : decode cc pc = .ok (.invokespecial index, 3))
    (kk : ∀ (H1 : Heap) (locs1 : List Loc) (cells1 slots1 : Nat), mm_V B L g' H1 → H1.size = z' → cells1 + s.heap.size = z' → slots1 + y0 = y' → z ≤ z' → (∀ q ∈ locs1, B ≤ q.base) → W p l e R s m args below meth c H1 locs1 cells1 slots1 Q (F0 m (pc + 3) ls rest)) : W p l e R s m args below meth c H locs cells slots Q (F0 m pc ls st) := by
  have hX9 := hX
  obtain ⟨hexec, hb, hml, hown, hr, hlk, hRf, hRl, hJ, hK, hin0, hB, hRc, hRs, hA, hNS⟩ := hX9
  obtain ⟨hc0, hpl, hnm, hln⟩ := hy
  intro T hT X
  have hpl9 : e.platform.magicAccessors = ({} : Platform).magicAccessors := by rw [X.admits.platform]
  have hcode := hK.2.1 _ hc0 args
  obtain ⟨mk, methM, cM, kP, vm₁, hnamed, hmethM, hcodeM, -, hlocalsM, -, hkP, -, hW₁, hstep₁⟩ := Steps.initColdArgs (e := e) X.here hexec X.warmed hpl9 hown hy1 hnm (hK.2.1 _ hlink args) (hK.2.1 _ hinst args) hcode (f := F0 m pc ls st) rfl (fun sig h => by rw [h] at hln; exact (Option.some.inj hln).symm) hstack (by rw [hb]; exact hdg)
  have X₁ := X.noted hW₁
  obtain ⟨T', ks, k, n, X', hks, hP', hz', hcs', hsy', hle, ho⟩ := mm_vrun hX hC X₁ (by show mm_V B L g T.heap; rw [hT]; exact hP) (by show T.heap.size = z; rw [hT]; exact hz) hcs hsy hF hzm hym (f := F0 m pc ls rest) rfl (by rw [hml]; exact hsz) (by rw [hb]; exact hdg) hnamed hcode hpl hy1 hfr hlo (by show 2 * 0 + (rest.map fun v => v.category).sum ≤ 8; omega)
  obtain ⟨t, a1, b1⟩ := kk T'.heap (locs ++ ks) _ _ hP' hz' hcs' hsy' hle (mm_apB hF hks) T' rfl X'
  exact ⟨t, hstep₁ t fun acts => (ho acts).trans a1, b1⟩
theorem mm_vIN {a : Nat} {z yb z' y' : Nat} {host : String} (hX : mm_Y L cc nL own fr lo zm ym y0 B p l R s m meth c) (hC : mm_CV l y cc' nL' fr' lo' zm ym B L (.ref a :: As) g z yb g' z' y') (hy : mm_yw y cc' nL' none As.length) (hy1 : y.name = "<init>") (hlink : Cond.methodLinkNest own index y host ∈ mm_wn) (hinst : Cond.instanceMethod y ∈ mm_ws) (hP : mm_V B L g H) (hz : H.size = z) (hcs : cells + s.heap.size = z) (hsy : slots + y0 = yb) (hF : ∀ q ∈ locs, B ≤ q.base) (hzm : z ≤ zm) (hym : yb ≤ ym) (hstack : st = As.reverse ++ .ref a :: rest) (hsz : ls.size = nL) (hW : (rest.map fun v => v.category).sum ≤ 8) (hfr : fr' + 1 ≤ fr) (hlo : 8 + (nL' + 11) + lo' ≤ lo) (hdg : decode cc pc = .ok (.invokespecial index, 3))
    (kk : ∀ (H1 : Heap) (locs1 : List Loc) (cells1 slots1 : Nat), mm_V B L g' H1 → H1.size = z' → cells1 + s.heap.size = z' → slots1 + y0 = y' → z ≤ z' → (∀ q ∈ locs1, B ≤ q.base) → W p l e R s m args below meth c H1 locs1 cells1 slots1 Q (F0 m (pc + 3) ls rest)) : W p l e R s m args below meth c H locs cells slots Q (F0 m pc ls st) := by
  have hX9 := hX
  obtain ⟨hexec, hb, hml, hown, hr, hlk, hRf, hRl, hJ, hK, hin0, hB, hRc, hRs, hA, hNS⟩ := hX9
  obtain ⟨hc0, hpl, hnm, hln⟩ := hy
  intro T hT X
  have hpl9 : e.platform.magicAccessors = ({} : Platform).magicAccessors := by rw [X.admits.platform]
  have hcode := hK.2.1 _ hc0 args
  obtain ⟨mk, methM, cM, kP, vm₁, hnamed, hmethM, hcodeM, -, hlocalsM, -, hkP, -, hW₁, hstep₁⟩ := Steps.initColdArgsNest (e := e) X.here hexec X.warmed hpl9 hown hy1 hnm (hK.2.2.1 _ hlink args) (hK.2.1 _ hinst args) hcode (f := F0 m pc ls st) rfl (fun sig h => by rw [h] at hln; exact (Option.some.inj hln).symm) hstack (by rw [hb]; exact hdg)
  have X₁ := X.noted hW₁
  obtain ⟨T', ks, k, n, X', hks, hP', hz', hcs', hsy', hle, ho⟩ := mm_vrun hX hC X₁ (by show mm_V B L g T.heap; rw [hT]; exact hP) (by show T.heap.size = z; rw [hT]; exact hz) hcs hsy hF hzm hym (f := F0 m pc ls rest) rfl (by rw [hml]; exact hsz) (by rw [hb]; exact hdg) hnamed hcode hpl hy1 hfr hlo (by show 2 * 0 + (rest.map fun v => v.category).sum ≤ 8; omega)
  obtain ⟨t, a1, b1⟩ := kk T'.heap (locs ++ ks) _ _ hP' hz' hcs' hsy' hle (mm_apB hF hks) T' rfl X'
  exact ⟨t, hstep₁ t fun acts => (ho acts).trans a1, b1⟩
end MMW

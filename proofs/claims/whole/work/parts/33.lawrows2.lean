/-! The law's loop: the script is read, never written. -/
def mm_scr (s : State) (scr : Cell) (Ln : Nat) (xs : Nat → Int32) : Prop := s.isArrayOf scr .int ∧ scr.vm ≠ .unknown ∧ scr.slots.size = Ln ∧ ∀ j : Nat, j < Ln → scr.slots[j]? = some (.int (xs j))
def mm_ob {α β : Type} (x : Option (α × mm_M)) (k : α → mm_M → Option β) : Option β := match x with
  | none => none
  | some (v, g) => k v g
theorem mm_ob_some {α β : Type} {x : Option (α × mm_M)} {k : α → mm_M → Option β} {y : β} (h : mm_ob x k = some y) : ∃ z : α × mm_M, x = some z ∧ k z.1 z.2 = some y := by
  rcases x with _ | ⟨v, g⟩
  · cases h
  · exact ⟨(v, g), rfl, h⟩
section MMS
variable {p : Program} {l : Launch} {e : Env} {R : Room} {s : State} {m : MethodId} {args : Array Value} {below : List Frame} {meth : Method} {c : Code} {H : Heap} {locs : List Loc} {cells slots : Nat} {Q : State → Prop}
variable {hh : List (Nat × Nat × Nat × Nat)} {cc : ByteArray} {own : String} {ret : Option FieldType} {nL fr lo : Nat} {L : mm_L} {rest : List Value} {pc b Ln : Nat} {ls : Array Slot} {xs : Nat → Int32} {scr : Cell}
theorem mm_sld {x : Int32} (hX : mm_Xh hh L cc nL own ret fr lo p l R s m meth c) (hsc : H[b]? = some scr) (hss : mm_scr s scr Ln xs) (hin : vp_in x Ln) (hdg : decode cc pc = .ok (.iaload, 1))
    (kk : W p l e R s m args below meth c H locs cells slots Q (F0 m (pc + 1) ls (.int (xs x.toNatClampNeg) :: rest))) : W p l e R s m args below meth c H locs cells slots Q (F0 m pc ls (.int x :: .ref b :: rest)) := by
  obtain ⟨hexec, hb, -⟩ := hX
  obtain ⟨h2, h3, h4, h5⟩ := hss
  have hlt : x.toNatClampNeg < Ln := Nat.not_le.mp fun q => hin (Or.inr q)
  exact W.iald (v := .int (xs x.toNatClampNeg)) hexec hb hsc h2 h3 (by rw [h4]; exact hin) (h5 _ hlt) rfl rfl hdg kk
theorem mm_slen (hX : mm_Xh hh L cc nL own ret fr lo p l R s m meth c) (hsc : H[b]? = some scr) (hss : mm_scr s scr Ln xs) (hdg : decode cc pc = .ok (.arraylength, 1))
    (kk : W p l e R s m args below meth c H locs cells slots Q (F0 m (pc + 1) ls (.int (Int32.ofNat Ln) :: rest))) : W p l e R s m args below meth c H locs cells slots Q (F0 m pc ls (.ref b :: rest)) := by
  obtain ⟨hexec, hb, -⟩ := hX
  obtain ⟨h2, h3, h4, h5⟩ := hss
  exact W.alen (n := Int32.ofNat Ln) hexec hb hsc h2 (by rw [h4] <;> rfl) rfl rfl hdg kk
end MMS

/-! The layout: kinds of cells, which of them there are, what each holds. Written by gen.py. -/
abbrev mm_L : Type := Nat × (Nat → Nat → Nat) × va_G × (Nat → ClassId)
def mm_lv (n h i : Nat) : Prop := match h with
  | 0 => i = 0
  | 1 => i = 0
  | 2 => i = 0
  | 3 => i = 0
  | 4 => i = 0
  | 5 => i < 3
  | 6 => i < 3
  | 7 => i < 3
  | 8 => ∃ c l, c < 3 ∧ l < n ∧ i = 12 * c + l
  | 9 => ∃ c l, c < 3 ∧ l < n ∧ i = 12 * c + l
  | 10 => i = 0
  | 11 => i = 0
  | 12 => i = 0
  | 13 => i = 0
  | 14 => i < 2 * n
  | 15 => i < 2 * n
  | 16 => i < 2 * n
  | 20 => i = 0
  | 21 => i = 0
  | 22 => i = 0
  | 23 => i = 0
  | 24 => i = 0
  | 25 => i = 0
  | 26 => i = 0
  | 27 => i = 0
  | 28 => i = 0
  | 29 => i = 0
  | 30 => i = 0
  | 31 => i = 0
  | 32 => i = 0
  | 33 => i = 0
  | 34 => i = 0
  | 35 => i = 0
  | 36 => i = 0
  | 37 => i = 0
  | 38 => i = 0
  | 39 => i = 0
  | 40 => i = 0
  | 41 => i = 0
  | 42 => i = 0
  | 43 => i = 0
  | 44 => i = 0
  | 50 => i = 0
  | _ => False
def T_0 : u_T := fun k => match k with
  | 0 => ("LoanArrows", "libraries", "I", true)
  | 1 => ("LoanArrows", "down", "[Z", true)
  | 2 => ("LoanArrows", "tree", "LLoanArrows$Tree;", true)
  | 3 => ("LoanArrows", "copies", "[LLoanArrows$Copy;", true)
  | 4 => ("LoanArrows", "post", "LLoanArrows$Post;", true)
  | _ => ("LoanArrows", "mail", "LLoanArrows$Mail;", true)
def ty_0 : Nat → FieldType := fun k => match k with
  | 0 => .int
  | 1 => (.array .boolean)
  | 2 => (.object "LoanArrows$Tree")
  | 3 => (.array (.object "LoanArrows$Copy"))
  | 4 => (.object "LoanArrows$Post")
  | _ => (.object "LoanArrows$Mail")
def T_5 : u_T := fun k => match k with
  | 0 => ("LoanArrows$Copy", "desks", "[LLoanArrows$Desk;", true)
  | 1 => ("LoanArrows$Copy", "loans", "[I", true)
  | 2 => ("LoanArrows$Copy", "loanCount", "I", false)
  | 3 => ("LoanArrows$Copy", "where", "I", false)
  | _ => ("LoanArrows$Copy", "inVan", "Z", false)
def ty_5 : Nat → FieldType := fun k => match k with
  | 0 => (.array (.object "LoanArrows$Desk"))
  | 1 => (.array .int)
  | 2 => .int
  | 3 => .int
  | _ => .boolean
def T_8 : u_T := fun k => match k with
  | 0 => ("LoanArrows$Desk", "queue", "[I", true)
  | 1 => ("LoanArrows$Desk", "queued", "I", false)
  | 2 => ("LoanArrows$Desk", "arrow", "I", false)
  | 3 => ("LoanArrows$Desk", "follower", "I", false)
  | 4 => ("LoanArrows$Desk", "state", "I", false)
  | _ => ("LoanArrows$Desk", "borrower", "I", false)
def ty_8 : Nat → FieldType := fun k => match k with
  | 0 => (.array .int)
  | 1 => .int
  | 2 => .int
  | 3 => .int
  | 4 => .int
  | _ => .int
def T_14 : u_T := fun k => match k with
  | 0 => ("LoanArrows$Line", "letterCopies", "[I", true)
  | 1 => ("LoanArrows$Line", "letterAskers", "[I", true)
  | 2 => ("LoanArrows$Line", "firstNumber", "I", false)
  | 3 => ("LoanArrows$Line", "nextNumber", "I", false)
  | _ => ("LoanArrows$Line", "numberToTake", "I", false)
def ty_14 : Nat → FieldType := fun k => match k with
  | 0 => (.array .int)
  | 1 => (.array .int)
  | 2 => .int
  | 3 => .int
  | _ => .int
def T_12 : u_T := fun k => match k with
  | 0 => ("LoanArrows$Mail", "libraries", "I", true)
  | 1 => ("LoanArrows$Mail", "tree", "LLoanArrows$Tree;", true)
  | 2 => ("LoanArrows$Mail", "post", "LLoanArrows$Post;", true)
  | _ => ("LoanArrows$Mail", "lines", "[LLoanArrows$Line;", true)
def ty_12 : Nat → FieldType := fun k => match k with
  | 0 => .int
  | 1 => (.object "LoanArrows$Tree")
  | 2 => (.object "LoanArrows$Post")
  | _ => (.array (.object "LoanArrows$Line"))
def T_10 : u_T := fun k => match k with
  | 0 => ("LoanArrows$Post", "parts", "[I", true)
  | _ => ("LoanArrows$Post", "size", "I", false)
def ty_10 : Nat → FieldType := fun k => match k with
  | 0 => (.array .int)
  | _ => .int
def T_2 : u_T := fun k => match k with
  | _ => ("LoanArrows$Tree", "parents", "[I", true)
def ty_2 : Nat → FieldType := fun k => match k with
  | _ => (.array .int)
def T_20 : u_T := fun k => match k with
  | 0 => ("LoanArrowsModel", "thrown", "I", false)
  | 1 => ("LoanArrowsModel", "n", "I", true)
  | 2 => ("LoanArrowsModel", "parents", "[I", true)
  | 3 => ("LoanArrowsModel", "down", "[Z", true)
  | 4 => ("LoanArrowsModel", "placed", "[Z", true)
  | 5 => ("LoanArrowsModel", "arrows", "[I", true)
  | 6 => ("LoanArrowsModel", "followers", "[I", true)
  | 7 => ("LoanArrowsModel", "states", "[I", true)
  | 8 => ("LoanArrowsModel", "lentTo", "[I", true)
  | 9 => ("LoanArrowsModel", "queued", "[I", true)
  | 10 => ("LoanArrowsModel", "queues", "[I", true)
  | 11 => ("LoanArrowsModel", "where", "[I", true)
  | 12 => ("LoanArrowsModel", "inVan", "[Z", true)
  | 13 => ("LoanArrowsModel", "loans", "[I", true)
  | 14 => ("LoanArrowsModel", "loanPlaces", "[I", true)
  | 15 => ("LoanArrowsModel", "firsts", "[I", true)
  | 16 => ("LoanArrowsModel", "nexts", "[I", true)
  | 17 => ("LoanArrowsModel", "due", "[I", true)
  | 18 => ("LoanArrowsModel", "lineCopies", "[I", true)
  | 19 => ("LoanArrowsModel", "lineAskers", "[I", true)
  | 20 => ("LoanArrowsModel", "packets", "I", false)
  | 21 => ("LoanArrowsModel", "acks", "[I", true)
  | 22 => ("LoanArrowsModel", "senders", "[I", true)
  | 23 => ("LoanArrowsModel", "takers", "[I", true)
  | 24 => ("LoanArrowsModel", "numbers", "[I", true)
  | 25 => ("LoanArrowsModel", "copies", "[I", true)
  | _ => ("LoanArrowsModel", "askers", "[I", true)
def ty_20 : Nat → FieldType := fun k => match k with
  | 0 => .int
  | 1 => .int
  | 2 => (.array .int)
  | 3 => (.array .boolean)
  | 4 => (.array .boolean)
  | 5 => (.array .int)
  | 6 => (.array .int)
  | 7 => (.array .int)
  | 8 => (.array .int)
  | 9 => (.array .int)
  | 10 => (.array .int)
  | 11 => (.array .int)
  | 12 => (.array .boolean)
  | 13 => (.array .int)
  | 14 => (.array .int)
  | 15 => (.array .int)
  | 16 => (.array .int)
  | 17 => (.array .int)
  | 18 => (.array .int)
  | 19 => (.array .int)
  | 20 => .int
  | 21 => (.array .int)
  | 22 => (.array .int)
  | 23 => (.array .int)
  | 24 => (.array .int)
  | 25 => (.array .int)
  | _ => (.array .int)
abbrev vwCl : List vw_C := [("LoanArrows", T_0, 6), ("LoanArrows$Copy", T_5, 5), ("LoanArrows$Desk", T_8, 6), ("LoanArrows$Line", T_14, 5), ("LoanArrows$Mail", T_12, 4), ("LoanArrows$Post", T_10, 2), ("LoanArrows$Tree", T_2, 1), ("LoanArrowsModel", T_20, 27)]
def mm_cz (L : mm_L) (h i : Nat) (w : Nat → Int32) : va_E := match h with
  | 0 => .inr (0, [.int (w 0), .ref (L.2.1 1 0), .ref (L.2.1 2 0), .ref (L.2.1 4 0), .ref (L.2.1 10 0), .ref (L.2.1 12 0)])
  | 1 => .inl (L.2.2.2 1, L.1, .inl w)
  | 2 => .inr (6, [.ref (L.2.1 3 0)])
  | 3 => .inl (L.2.2.2 0, L.1, .inl w)
  | 4 => .inl (L.2.2.2 2, 3, .inr (.inr (.inr (.inr (fun j => some (L.2.1 5 j))))))
  | 5 => .inr (1, [.ref (L.2.1 6 i), .ref (L.2.1 7 i), .int (w 2), .int (w 3), .int (w 4)])
  | 6 => .inl (L.2.2.2 3, L.1, .inr (.inr (.inr (.inr (fun j => some (L.2.1 8 (12 * i + j)))))))
  | 7 => .inl (L.2.2.2 0, 200, .inl w)
  | 8 => .inr (2, [.ref (L.2.1 9 i), .int (w 1), .int (w 2), .int (w 3), .int (w 4), .int (w 5)])
  | 9 => .inl (L.2.2.2 0, 4, .inl w)
  | 10 => .inr (5, [.ref (L.2.1 11 0), .int (w 1)])
  | 11 => .inl (L.2.2.2 0, 240, .inl w)
  | 12 => .inr (4, [.int (w 0), .ref (L.2.1 2 0), .ref (L.2.1 10 0), .ref (L.2.1 13 0)])
  | 13 => .inl (L.2.2.2 4, (2 * L.1), .inr (.inr (.inr (.inr (fun j => some (L.2.1 14 j))))))
  | 14 => .inr (3, [.ref (L.2.1 15 i), .ref (L.2.1 16 i), .int (w 2), .int (w 3), .int (w 4)])
  | 15 => .inl (L.2.2.2 0, 4, .inl w)
  | 16 => .inl (L.2.2.2 0, 4, .inl w)
  | 20 => .inr (7, [.int (w 0), .int (w 1), .ref (L.2.1 21 0), .ref (L.2.1 22 0), .ref (L.2.1 23 0), .ref (L.2.1 24 0), .ref (L.2.1 25 0), .ref (L.2.1 26 0), .ref (L.2.1 27 0), .ref (L.2.1 28 0), .ref (L.2.1 29 0), .ref (L.2.1 30 0), .ref (L.2.1 31 0), .ref (L.2.1 32 0), .ref (L.2.1 33 0), .ref (L.2.1 34 0), .ref (L.2.1 35 0), .ref (L.2.1 36 0), .ref (L.2.1 37 0), .ref (L.2.1 38 0), .int (w 20), .ref (L.2.1 39 0), .ref (L.2.1 40 0), .ref (L.2.1 41 0), .ref (L.2.1 42 0), .ref (L.2.1 43 0), .ref (L.2.1 44 0)])
  | 21 => .inl (L.2.2.2 0, 12, .inl w)
  | 22 => .inl (L.2.2.2 1, 12, .inl w)
  | 23 => .inl (L.2.2.2 1, 3, .inl w)
  | 24 => .inl (L.2.2.2 0, 36, .inl w)
  | 25 => .inl (L.2.2.2 0, 36, .inl w)
  | 26 => .inl (L.2.2.2 0, 36, .inl w)
  | 27 => .inl (L.2.2.2 0, 36, .inl w)
  | 28 => .inl (L.2.2.2 0, 36, .inl w)
  | 29 => .inl (L.2.2.2 0, 144, .inl w)
  | 30 => .inl (L.2.2.2 0, 3, .inl w)
  | 31 => .inl (L.2.2.2 1, 3, .inl w)
  | 32 => .inl (L.2.2.2 0, 3, .inl w)
  | 33 => .inl (L.2.2.2 0, 600, .inl w)
  | 34 => .inl (L.2.2.2 0, 24, .inl w)
  | 35 => .inl (L.2.2.2 0, 24, .inl w)
  | 36 => .inl (L.2.2.2 0, 24, .inl w)
  | 37 => .inl (L.2.2.2 0, 1536, .inl w)
  | 38 => .inl (L.2.2.2 0, 1536, .inl w)
  | 39 => .inl (L.2.2.2 0, 40, .inl w)
  | 40 => .inl (L.2.2.2 0, 40, .inl w)
  | 41 => .inl (L.2.2.2 0, 40, .inl w)
  | 42 => .inl (L.2.2.2 0, 40, .inl w)
  | 43 => .inl (L.2.2.2 0, 40, .inl w)
  | 44 => .inl (L.2.2.2 0, 40, .inl w)
  | 50 => .inl (L.2.2.2 5, 1, .inr (.inl (fun _ => (w 0).toInt64)))
  | _ => .inr (0, [])
def mm_tys (L : mm_L) : List (ClassId × FieldType) := [(L.2.2.2 0, .int), (L.2.2.2 1, .boolean), (L.2.2.2 2, .object "LoanArrows$Copy"), (L.2.2.2 3, .object "LoanArrows$Desk"), (L.2.2.2 4, .object "LoanArrows$Line"), (L.2.2.2 5, .long)]
theorem mm_ls0 {n : Nat} : mm_lv n 0 0 := rfl
theorem mm_ls1 {n : Nat} : mm_lv n 1 0 := rfl
theorem mm_ls2 {n : Nat} : mm_lv n 2 0 := rfl
theorem mm_ls3 {n : Nat} : mm_lv n 3 0 := rfl
theorem mm_ls4 {n : Nat} : mm_lv n 4 0 := rfl
theorem mm_ls10 {n : Nat} : mm_lv n 10 0 := rfl
theorem mm_ls11 {n : Nat} : mm_lv n 11 0 := rfl
theorem mm_ls12 {n : Nat} : mm_lv n 12 0 := rfl
theorem mm_ls13 {n : Nat} : mm_lv n 13 0 := rfl
theorem mm_ls20 {n : Nat} : mm_lv n 20 0 := rfl
theorem mm_ls21 {n : Nat} : mm_lv n 21 0 := rfl
theorem mm_ls22 {n : Nat} : mm_lv n 22 0 := rfl
theorem mm_ls23 {n : Nat} : mm_lv n 23 0 := rfl
theorem mm_ls24 {n : Nat} : mm_lv n 24 0 := rfl
theorem mm_ls25 {n : Nat} : mm_lv n 25 0 := rfl
theorem mm_ls26 {n : Nat} : mm_lv n 26 0 := rfl
theorem mm_ls27 {n : Nat} : mm_lv n 27 0 := rfl
theorem mm_ls28 {n : Nat} : mm_lv n 28 0 := rfl
theorem mm_ls29 {n : Nat} : mm_lv n 29 0 := rfl
theorem mm_ls30 {n : Nat} : mm_lv n 30 0 := rfl
theorem mm_ls31 {n : Nat} : mm_lv n 31 0 := rfl
theorem mm_ls32 {n : Nat} : mm_lv n 32 0 := rfl
theorem mm_ls33 {n : Nat} : mm_lv n 33 0 := rfl
theorem mm_ls34 {n : Nat} : mm_lv n 34 0 := rfl
theorem mm_ls35 {n : Nat} : mm_lv n 35 0 := rfl
theorem mm_ls36 {n : Nat} : mm_lv n 36 0 := rfl
theorem mm_ls37 {n : Nat} : mm_lv n 37 0 := rfl
theorem mm_ls38 {n : Nat} : mm_lv n 38 0 := rfl
theorem mm_ls39 {n : Nat} : mm_lv n 39 0 := rfl
theorem mm_ls40 {n : Nat} : mm_lv n 40 0 := rfl
theorem mm_ls41 {n : Nat} : mm_lv n 41 0 := rfl
theorem mm_ls42 {n : Nat} : mm_lv n 42 0 := rfl
theorem mm_ls43 {n : Nat} : mm_lv n 43 0 := rfl
theorem mm_ls44 {n : Nat} : mm_lv n 44 0 := rfl
theorem mm_ls50 {n : Nat} : mm_lv n 50 0 := rfl
theorem mm_l5 {n : Nat} {x : Int32} (h : vp_in x 3) : mm_lv n 5 x.toNatClampNeg := Nat.not_le.mp fun q => h (Or.inr q)
theorem mm_l8 {n c : Nat} {x : Int32} (hc : mm_lv n 5 c) (h : vp_in x n) : mm_lv n 8 (12 * c + x.toNatClampNeg) := ⟨c, x.toNatClampNeg, hc, Nat.not_le.mp fun q => h (Or.inr q), rfl⟩
theorem mm_l14 {n : Nat} {x : Int32} (h : vp_in x (2 * n)) : mm_lv n 14 x.toNatClampNeg := Nat.not_le.mp fun q => h (Or.inr q)
def mm_ex (x : Nat) : String := match x with
  | 1 => "java/lang/IndexOutOfBoundsException"
  | 2 => "java/lang/IllegalArgumentException"
  | _ => "java/lang/IllegalStateException"
def mm_isN : Cond → Bool
  | .fieldLinkNest .. => true
  | .methodLinkNest .. => true
  | _ => false
def mm_good (w : Cond) : Bool := goodWord w || (w.onTables && (w.faceAtom || w.castAtom))
def mm_ws : List Cond := lw_tbl.filter mm_good
def mm_wn : List Cond := tables_1.filter mm_isN
def mm_str : List (String × Nat × String) := [("LoanArrows", 216, "no such copy"), ("LoanArrows", 214, "no such library"), ("LoanArrows", 63, "the copy is placed already"), ("LoanArrows", 74, "no such reader"), ("LoanArrows", 220, "the copy is not placed"), ("LoanArrows", 222, "the library is down"), ("LoanArrows", 96, "the queue is full or has the reader"), ("LoanArrows", 224, "the library's state does not allow it"), ("LoanArrows", 134, "the copy is in no van"), ("LoanArrows", 218, "no such packet"), ("LoanArrows", 151, "no such part of a packet"), ("LoanArrows", 172, "the library is up"), ("LoanArrows", 174, "no such fact of a library")]
def mm_sw : List Cond := [.laysStatic "java/lang/Throwable" "UNASSIGNED_STACK" "[Ljava/lang/StackTraceElement;", .isRef (.static "java/lang/Throwable" "UNASSIGNED_STACK" "[Ljava/lang/StackTraceElement;"), .laysStatic "java/lang/Throwable" "SUPPRESSED_SENTINEL" "Ljava/util/List;", .isRef (.static "java/lang/Throwable" "SUPPRESSED_SENTINEL" "Ljava/util/List;")]
def mm_nc : List (String × String) := [("java/lang/IllegalStateException", "java/lang/IndexOutOfBoundsException"), ("java/lang/IllegalArgumentException", "java/lang/IndexOutOfBoundsException"), ("java/lang/IllegalStateException", "java/lang/IllegalArgumentException")]
def mm_nm : List String := ["java/lang/RuntimeException", "java/lang/Exception"]
theorem mm_nm_fit : ∀ n ∈ mm_nm, Bundle.fit n = true := by decide +kernel
/-! The store: what the system's cells hold, by kind, object and slot; a row of it is a cell. -/
abbrev mm_M : Type := Nat → Nat → Nat → Int32
def mm_row (g : mm_M) (h i : Nat) (w : Nat → Int32) : mm_M := fun a b => if a = h ∧ b = i then w else g a b
def mm_st (g : mm_M) (h i j : Nat) (v : Int32) : mm_M := mm_row g h i (upd (g h i) j v)
theorem mm_row_eq (g : mm_M) (h i : Nat) (w : Nat → Int32) : mm_row g h i w h i = w := by simp [mm_row]
theorem mm_row_ne {g : mm_M} {h i a b : Nat} {w : Nat → Int32} (hn : ¬ (a = h ∧ b = i)) : mm_row g h i w a b = g a b := by
  unfold mm_row
  exact if_neg hn
/-- the layout: how many libraries; where each cell lies; the classes and slots; the array classes -/
def mm_P (L : mm_L) (g : mm_M) (H : Heap) : Prop := ∀ h i, mm_lv L.1 h i → va_at L.2.2.1 vwCl (L.2.1 h i, mm_cz L h i (g h i)) H
def mm_J (L : mm_L) : Prop := ∀ h i h' i', mm_lv L.1 h i → mm_lv L.1 h' i' → L.2.1 h i = L.2.1 h' i' → h = h' ∧ i = i'
def mm_F (L : mm_L) (q : Nat) : Prop := ∃ h i, mm_lv L.1 h i ∧ q = L.2.1 h i
theorem mm_P.set {L : mm_L} {g : mm_M} {H H1 : Heap} {h i : Nat} {w : Nat → Int32} (hP : mm_P L g H) (hJ : mm_J L) (hlv : mm_lv L.1 h i) (he : va_at L.2.2.1 vwCl (L.2.1 h i, mm_cz L h i w) H1) (oq : ∀ q : Nat, q ≠ L.2.1 h i → H1[q]? = H[q]?) : mm_P L (mm_row g h i w) H1 := by
  intro a b hab
  by_cases hq : a = h ∧ b = i
  · obtain ⟨rfl, rfl⟩ := hq
    rw [mm_row_eq]
    exact he
  · rw [mm_row_ne hq]
    exact (hP a b hab).kept (oq _ (fun e => hq (hJ a b h i hab hlv e)))
theorem mm_P.kept {L : mm_L} {g : mm_M} {H H1 : Heap} (hP : mm_P L g H) (hq : ∀ q : Nat, mm_F L q → H1[q]? = H[q]?) : mm_P L g H1 := fun h i hlv => (hP h i hlv).kept (hq _ ⟨h, i, hlv, rfl⟩)
/-- a cell of the system isn't a cell of statics -/
theorem mm_plain {D : va_G} {cl : List vw_C} {q : Nat × va_E} {H : Heap} (h : va_at D cl q H) : ∃ cell : Cell, H[q.1]? = some cell ∧ cell.vm = .none := by
  obtain ⟨a, e⟩ := q
  cases e with
  | inl x =>
    refine ⟨_, h, ?_⟩
    obtain ⟨cA, n, f | f | f | f | f⟩ := x <;> rfl
  | inr o =>
    obtain ⟨r, h1, cell, h2, h3, h4, h5⟩ := h
    exact ⟨cell, h2, h4⟩
theorem mm_P.not_statics {L : mm_L} {g : mm_M} {H : Heap} (hP : mm_P L g H) {q : Nat} (hq : mm_F L q) {cell : Cell} (hc : H[q]? = some cell) : cell.vm.isStatics = false := by
  obtain ⟨h, i, hlv, rfl⟩ := hq
  obtain ⟨c2, e1, e2⟩ := mm_plain (hP h i hlv)
  cases hc.symm.trans e1
  rw [e2]
  rfl
theorem mm_P.lt {L : mm_L} {g : mm_M} {H : Heap} (hP : mm_P L g H) {q : Nat} (hq : mm_F L q) : q < H.size := by
  obtain ⟨h, i, hlv, rfl⟩ := hq
  exact (hP h i hlv).lt
/-- off the places that were written an old cell is as it was -/
theorem mm_frame {s U : State} {ks : List Loc} {k n : Nat} (h : s.sameButNew ({ U with vm := s.vm } : State) ks k n) {q : Nat} (hq : ∀ z ∈ ks, z.base ≠ q) {cell : Cell} (hc : s.heap[q]? = some cell) : U.heap[q]? = some cell := by
  obtain ⟨-, -, -, -, -, h6⟩ := h
  obtain ⟨c', e1, e2, e3, e4⟩ := h6 q cell hc
  have e5 : c'.slots = cell.slots := by
    apply Array.ext_getElem?
    intro i
    exact e4 i (fun hm => hq _ hm rfl)
  rw [e5] at e2
  rw [e2] at e1
  exact e1
/-! What the tables say, at any state of the run. -/
theorem mm_isN_at {w : Cond} (hw : mm_isN w = true) {a a' : Array Value} {s U : State} (hW : s.WarmedH U.vm) (h : w.before a s = true) : w.before a' U = true := by
  cases w <;> first | (simp [mm_isN] at hw; done) | skip
  · exact va_Nw.use rfl (va_Nw.warmM hW (va_Nw.of rfl h))
  · exact va_Nw.use rfl (va_Nw.warmF hW (va_Nw.of rfl h))
theorem mm_good_at {w : Cond} (hw : mm_good w = true) {a a' : Array Value} {s U : State} (hW : s.WarmedH U.vm) (h : w.before a s = true) : w.before a' U = true := by
  unfold mm_good at hw
  by_cases hg : goodWord w = true
  · exact word_at hW (good_of_word hg) h
  · have hg' : goodWord w = false := by simpa using hg
    rw [hg', Bool.false_or, Bool.and_eq_true, Bool.or_eq_true] at hw
    have h1 : w.before a (s.setVm U.vm) = true := by
      rcases hw.2 with hf | hf
      · exact Cond.faceAtom_setVm hW.alike w hf h
      · exact Cond.castAtom_setVm hW.alike w hf h
    exact va_tabs hw.1 (rfl : (s.setVm U.vm).vm = U.vm) h1
/-! What a method does to the store, as a function: none (it would leave the walked road), or what it ended with (0: returned; x: thrown, by the exception's number), its answer, the store. -/
def mm_bd {α β : Type} (x : Option (Nat × α × mm_M)) (d : β) (k : α → mm_M → Option (Nat × β × mm_M)) : Option (Nat × β × mm_M) := match x with
  | none => none
  | some (0, v, g) => k v g
  | some (e + 1, _, g) => some (e + 1, d, g)
theorem mm_bd_some {α β : Type} {x : Option (Nat × α × mm_M)} {d : β} {k : α → mm_M → Option (Nat × β × mm_M)} {y : Nat × β × mm_M} (h : mm_bd x d k = some y) : (∃ v g, x = some (0, v, g) ∧ k v g = some y) ∨ (∃ e v g, x = some (e + 1, v, g) ∧ (e + 1, d, g) = y) := by
  rcases x with _ | ⟨_ | e, v, g⟩
  · cases h
  · exact Or.inl ⟨v, g, rfl, h⟩
  · exact Or.inr ⟨e, v, g, rfl, Option.some.inj h⟩
def mm_ix {α : Type} (x : Int32) (n : Nat) (k : Option α) : Option α := if x < 0 ∨ n ≤ x.toNatClampNeg then none else k
theorem mm_ix_some {α : Type} {x : Int32} {n : Nat} {k : Option α} {y : α} (h : mm_ix x n k = some y) : vp_in x n ∧ k = some y := by
  unfold mm_ix at h
  by_cases hc : x < 0 ∨ n ≤ x.toNatClampNeg
  · rw [if_pos hc] at h
    cases h
  · rw [if_neg hc] at h
    exact ⟨hc, h⟩
def mm_nz {α : Type} (x : Int32) (k : Option α) : Option α := if x = 0 ∨ x = 1 then k else none
theorem mm_nz_some {α : Type} {x : Int32} {k : Option α} {y : α} (h : mm_nz x k = some y) : narrow .boolean (.int x) = .int x ∧ k = some y := by
  unfold mm_nz at h
  by_cases hc : x = 0 ∨ x = 1
  · rw [if_pos hc] at h
    refine ⟨?_, h⟩
    rcases hc with rfl | rfl <;> rfl
  · rw [if_neg hc] at h
    cases h
def mm_let {α β : Type} (x : α) (k : α → β) : β := k x
theorem mm_let_ex {α β : Type} {x : α} {k : α → β} {y : β} (h : mm_let x k = y) : ∃ z, z = x ∧ k z = y := ⟨x, rfl, h⟩
theorem mm_pos {c : Prop} [Decidable c] {α : Type} {a b y : α} (hc : c) (h : (if c then a else b) = y) : a = y := by rw [if_pos hc] at h; exact h
theorem mm_neg {c : Prop} [Decidable c] {α : Type} {a b y : α} (hc : ¬ c) (h : (if c then a else b) = y) : b = y := by rw [if_neg hc] at h; exact h
def mm_oi (e : Nat) (v : Int32) : Option Value ⊕ Nat := match e with
  | 0 => .inl (some (.int v))
  | e + 1 => .inr (e + 1)
def mm_ov (e : Nat) (_ : Int32) : Option Value ⊕ Nat := match e with
  | 0 => .inl none
  | e + 1 => .inr (e + 1)
def mm_or (L : mm_L) (k e v : Nat) : Option Value ⊕ Nat := match e with
  | 0 => .inl (some (.ref (L.2.1 k v)))
  | e + 1 => .inr (e + 1)
theorem mm_i1 : Int32.ofInt 1 = 1 := by decide
theorem mm_i4 : Int32.ofInt 4 = 4 := by decide
theorem mm_im1 : Int32.ofInt (-1) = -1 := by decide
/-- the two statics of Throwable that a throw reads -/
def mm_SW (f d : String) (U : State) : Prop := ∀ a : Array Value, (Cond.laysStatic "java/lang/Throwable" f d).before a U = true ∧ (Cond.isRef (.static "java/lang/Throwable" f d)).before a U = true
theorem mm_sw_same {s U : State} (hvm : U.vm = s.vm) (hh : ∀ (q : Nat) (cell : Cell), s.heap[q]? = some cell → cell.vm.isStatics = true → U.heap[q]? = some cell) {O f d : String} {a a' : Array Value} (h1 : (Cond.laysStatic O f d).before a s = true) (h2 : (Cond.isRef (.static O f d)).before a s = true) :
    (Cond.laysStatic O f d).before a' U = true ∧ (Cond.isRef (.static O f d)).before a' U = true := by
  obtain ⟨c, k, i, fd, ad, cell, hc, hf, hst, hsta, hcell, hiss, hcls, hlt, hty⟩ := Cond.laysStatic_spec h1
  have hc' : U.vm.findClass O = some c := by rw [hvm]; exact hc
  have hf' : U.fieldFound? O f d = some (c, k, i, fd) := by
    unfold State.fieldFound? at hf ⊢
    rw [hvm]
    exact hf
  have hcell' := hh ad cell hcell hiss
  have hv : cell.slots[fd.slot]? = some cell.slots[fd.slot] := Array.getElem?_eq_getElem hlt
  have e1 : (Term.static O f d).eval a s none [] s = some cell.slots[fd.slot] := by
    simp [Term.eval, State.fieldNamed?, hf, hst, hsta, hcell, hiss, hv]
  have e2 : (Term.static O f d).eval a' U none [] U = some cell.slots[fd.slot] := by
    simp [Term.eval, State.fieldNamed?, hf', hst, hsta, hcell', hiss, hv]
  refine ⟨by simp [Cond.before, Cond.holds, Cond.value, hc', hf', hst, hsta, hcell', hiss, hcls, hlt, hty], ?_⟩
  simp only [Cond.before, Cond.holds, Cond.value, e1] at h2
  simp only [Cond.before, Cond.holds, Cond.value, e2]
  exact h2
theorem mm_SW.to {f d : String} {s U : State} (h : mm_SW f d s) (hW : s.WarmedH U.vm) (hh : ∀ (q : Nat) (cell : Cell), s.heap[q]? = some cell → cell.vm.isStatics = true → U.heap[q]? = some cell) : mm_SW f d U := by
  intro a
  have h1 : (Cond.laysStatic "java/lang/Throwable" f d).before a (s.setVm U.vm) = true := Cond.laysStatic_setVm hW.alike (h a).1
  have h2 : (Cond.isRef (.static "java/lang/Throwable" f d)).before a (s.setVm U.vm) = true := by
    have e := Term.eval_setVm (args := a) (o := none) hW.alike (.static "java/lang/Throwable" f d) [] rfl
    have h3 := (h a).2
    simp only [Cond.before, Cond.holds, Cond.value] at h3 ⊢
    rw [e]
    exact h3
  exact mm_sw_same (s := s.setVm U.vm) (U := U) rfl hh h1 h2
/-- all that the tables say, at a state of the run -/
def mm_K (L : mm_L) (U : State) : Prop := va_K L.2.2.1 vwCl (mm_tys L) U ∧ (∀ w ∈ mm_ws, ∀ a : Array Value, w.before a U = true) ∧ (∀ w ∈ mm_wn, ∀ a : Array Value, w.before a U = true) ∧ (∀ q ∈ mm_str, ∃ a : Nat, vk_R q.1 q.2.1 q.2.2 a U) ∧ mm_SW "UNASSIGNED_STACK" "[Ljava/lang/StackTraceElement;" U ∧ mm_SW "SUPPRESSED_SENTINEL" "Ljava/util/List;" U ∧ ∀ q ∈ mm_nc, va_Nc q.1 q.2 U
theorem mm_K.to {L : mm_L} {s U : State} (h : mm_K L s) (hW : s.WarmedH U.vm) (hh : ∀ (q : Nat) (cell : Cell), s.heap[q]? = some cell → cell.vm.isStatics = true → U.heap[q]? = some cell) : mm_K L U := by
  obtain ⟨h1, h2, h3, h4, h5, h6, h7⟩ := h
  refine ⟨va_K.moved hW.alike h1, fun w hw a => mm_good_at (List.mem_filter.mp hw).2 hW (h2 w hw a), fun w hw a => mm_isN_at ((List.mem_filter.mp hw).2) hW (h3 w hw a), fun q hq => ?_, h5.to hW hh, h6.to hW hh, fun q hq => va_Nc.moved hW.alike (h7 q hq)⟩
  obtain ⟨a, ha⟩ := h4 q hq
  exact ⟨a, vk_R.warm hW ha⟩
/-- how an invocation ends: returned, or thrown; the store; nothing else moved -/
def mm_Q (below : List Frame) (L : mm_L) (s : State) (oc : Option Value ⊕ Nat) (g : mm_M) : State → Prop := fun t =>
  t.status = .running ∧ s.WarmedH t.vm ∧ mm_P L g t.heap ∧ ∃ (ks : List Loc) (k n : Nat), s.sameButNew ({ t with vm := s.vm } : State) ks k n ∧ (∀ q ∈ ks, mm_F L q.base) ∧
    match oc with
    | .inl v => Ended t below (.returned v) ∧ k = 0 ∧ n = 0
    | .inr x => ∃ (q : Addr) (ce : Cell), Ended t below (.threw q) ∧ t.heap[q]? = some ce ∧ ce.vm = .none ∧ s.vm.findClass (mm_ex x) = some ce.cls ∧ k = 1 ∧ n = 6
/-- the table of handlers -/
def mm_tab (c : Code) : List (Nat × Nat × Nat × Nat) := c.exceptionTable.toList.map (fun h => (h.startPc, h.endPc, h.handlerPc, h.catchType))
/-- no cell of the system is one of statics at the walk's start -/
def mm_ns (L : mm_L) (s : State) : Prop := ∀ (q : Nat) (cell : Cell), mm_F L q → s.heap[q]? = some cell → cell.vm.isStatics = false
/-- what holds throughout the walk of a method -/
def mm_Xh (hh : List (Nat × Nat × Nat × Nat)) (L : mm_L) (cc : ByteArray) (nL : Nat) (own : String) (ret : Option FieldType) (fr lo : Nat) (p : Program) (l : Launch) (R : Room) (s : State) (m : MethodId) (meth : Method) (c : Code) : Prop :=
  p.tables.exec = Jvm.exec ∧ c.code = cc ∧ c.maxLocals = nL ∧ s.vm.findClass own = some m.cls ∧ meth.sig.returnType = ret ∧ meth.locks = false ∧ mm_tab c = hh ∧ fr ≤ R.frames ∧ lo ≤ R.locals ∧ 1 ≤ R.cells ∧ 6 ≤ R.slots ∧ mm_J L ∧ mm_K L s ∧ (∀ e : Env, l.admits e → e.platform.stackTraces = false) ∧ mm_ns L s
abbrev mm_X := mm_Xh []
/-- a method's contract at given arguments and a given store -/
def mm_C (l : Launch) (y : MethodName) (cc : ByteArray) (nL : Nat) (ret : Option FieldType) (fr lo : Nat) (L : mm_L) (av : List Value) (g : mm_M) (oc : Option Value ⊕ Nat) (g' : mm_M) : Prop :=
  ∀ (p : Program) (e : Env) (R : Room) (s : State) (m : MethodId) (below : List Frame) (meth : Method) (c : Code), mm_X L cc nL y.cls ret fr lo p l R s m meth c → mm_P L g s.heap →
    W p l e R s m av.toArray below meth c s.heap [] 0 0 (mm_Q below L s oc g') (entryFrame m av.toArray nL)
section MMA
variable {p : Program} {l : Launch} {e : Env} {R : Room} {s : State} {m : MethodId} {args : Array Value} {below : List Frame} {meth : Method} {c : Code} {H : Heap} {locs : List Loc} {cells slots : Nat} {Q : State → Prop}
theorem mm_mono {Q' : State → Prop} {f : JFrame} (hQ : ∀ t, Q t → Q' t) (k : W p l e R s m args below meth c H locs cells slots Q f) : W p l e R s m args below meth c H locs cells slots Q' f := by
  intro T hT X
  obtain ⟨t, a, b⟩ := k T hT X
  exact ⟨t, a, hQ t b⟩
theorem mm_enter {av : List Value} {nL : Nat} (hn : (lg_sl av).length ≤ nL) (k : ∀ ls : Array Slot, lv_has ls nL (lv_args 0 av) → W p l e R s m args below meth c H locs cells slots Q (F0 m 0 ls [])) : W p l e R s m args below meth c H locs cells slots Q (entryFrame m av.toArray nL) := by
  rw [lg_entry_eq]
  exact k _ (lv_entry av hn)
/-- the walk's cells of statics are those of its start -/
theorem mm_still {L : mm_L} {T : State} (X : Stand p l e R s m args below meth c T locs cells slots) (h0 : mm_ns L s) (hF : ∀ q ∈ locs, mm_F L q.base) (q : Nat) (cell : Cell) (hc : s.heap[q]? = some cell) (hi : cell.vm.isStatics = true) : T.heap[q]? = some cell := by
  have hs : s.sameButNew ({ T with vm := s.vm } : State) locs cells slots := X.same
  refine mm_frame hs (fun z hz e1 => ?_) hc
  have h1 := h0 z.base cell (hF z hz) (by rw [e1]; exact hc)
  rw [hi] at h1
  cases h1
theorem mm_vret {cc : ByteArray} {L : mm_L} {g : mm_M} {pc : Nat} {ls : Array Slot} (hexec : p.tables.exec = Jvm.exec) (hb : c.code = cc) (hr : meth.sig.returnType = none) (hlk : meth.locks = false) (hP : mm_P L g H) (hF : ∀ q ∈ locs, mm_F L q.base) (hdg : decode cc pc = .ok (.return_, 1)) :
    W p l e R s m args below meth c H locs 0 0 (mm_Q below L s (.inl none) g) (F0 m pc ls []) := by
  refine mm_mono ?_ (W.vret (Qc := fun _ _ o t => o = .returned none ∧ t.heap = H) (free := mm_F L) hexec hb hr (fun t ht _ => ⟨rfl, ht⟩) hF hdg hlk)
  rintro t ⟨o, h1, h2, ⟨rfl, h3⟩, ks, ⟨-, h4, h5⟩, h6⟩
  exact ⟨h1, h4, by rw [h3]; exact hP, ks, 0, 0, h5, h6, h2, rfl, rfl⟩
theorem mm_zret {cc : ByteArray} {L : mm_L} {g : mm_M} {pc : Nat} {ls : Array Slot} {v : Int32} {ty : FieldType} (hexec : p.tables.exec = Jvm.exec) (hb : c.code = cc) (hr : meth.sig.returnType = some ty) (hn : narrow ty (.int v) = .int v) (hlk : meth.locks = false) (hP : mm_P L g H) (hF : ∀ q ∈ locs, mm_F L q.base) (hdg : decode cc pc = .ok (.ireturn, 1)) :
    W p l e R s m args below meth c H locs 0 0 (mm_Q below L s (.inl (some (.int v))) g) (F0 m pc ls [.int v]) := by
  refine mm_mono ?_ (W.zret (Qc := fun _ _ o t => o = .returned (some (.int v)) ∧ t.heap = H) (free := mm_F L) hexec hb hr hn (fun t ht _ => ⟨rfl, ht⟩) hF hdg hlk)
  rintro t ⟨o, h1, h2, ⟨rfl, h3⟩, ks, ⟨-, h4, h5⟩, h6⟩
  exact ⟨h1, h4, by rw [h3]; exact hP, ks, 0, 0, h5, h6, h2, rfl, rfl⟩
theorem mm_iret {cc : ByteArray} {L : mm_L} {g : mm_M} {pc : Nat} {ls : Array Slot} {v : Int32} (hexec : p.tables.exec = Jvm.exec) (hb : c.code = cc) (hr : meth.sig.returnType = some .int) (hlk : meth.locks = false) (hP : mm_P L g H) (hF : ∀ q ∈ locs, mm_F L q.base) (hdg : decode cc pc = .ok (.ireturn, 1)) :
    W p l e R s m args below meth c H locs 0 0 (mm_Q below L s (.inl (some (.int v))) g) (F0 m pc ls [.int v]) := mm_zret hexec hb hr rfl hlk hP hF hdg
theorem mm_aret {cc : ByteArray} {L : mm_L} {g : mm_M} {pc : Nat} {ls : Array Slot} {v : Nat} {n : String} (hexec : p.tables.exec = Jvm.exec) (hb : c.code = cc) (hr : meth.sig.returnType = some (.object n)) (hlk : meth.locks = false) (hP : mm_P L g H) (hF : ∀ q ∈ locs, mm_F L q.base) (hdg : decode cc pc = .ok (.areturn, 1)) :
    W p l e R s m args below meth c H locs 0 0 (mm_Q below L s (.inl (some (.ref v))) g) (F0 m pc ls [.ref v]) := by
  refine mm_mono ?_ (W.aret (Qc := fun _ _ o t => o = .returned (some (.ref v)) ∧ t.heap = H) (free := mm_F L) hexec hb hr (Or.inl ⟨n, rfl⟩) (Or.inr ⟨v, rfl⟩) (fun t ht _ => ⟨rfl, ht⟩) hF hdg hlk)
  rintro t ⟨o, h1, h2, ⟨rfl, h3⟩, ks, ⟨-, h4, h5⟩, h6⟩
  exact ⟨h1, h4, by rw [h3]; exact hP, ks, 0, 0, h5, h6, h2, rfl, rfl⟩
/-! ## a call -/
def mm_out (p : Program) (l : Launch) (e : Env) (R : Room) (s : State) (m : MethodId) (args : Array Value) (below : List Frame) (meth : Method) (c : Code) (L : mm_L) (T : State) (locs : List Loc) (cells slots : Nat) (f : JFrame) (len : Nat) (S0 : List Action → State) (oc : Option Value ⊕ Nat) (g' : mm_M) : Prop :=
  ∃ (T' : State) (ks : List Loc) (k n : Nat), Stand p l e R s m args below meth c T' (locs ++ ks) (cells + k) (slots + n) ∧ (∀ q ∈ ks, mm_F L q.base) ∧ mm_P L g' T'.heap ∧ (∀ (q : Nat) (cell : Cell), ¬ mm_F L q → T.heap[q]? = some cell → T'.heap[q]? = some cell) ∧
    match oc with
    | .inl v => k = 0 ∧ n = 0 ∧ ∀ acts, Steps p.tables e below (S0 acts) (T'.setTop { f with pc := f.pc + len, stack := v.toList ++ f.stack })
    | .inr x => ∃ (q : Addr) (ce : Cell), T'.heap[q]? = some ce ∧ ce.vm = .none ∧ s.vm.findClass (mm_ex x) = some ce.cls ∧ k = 1 ∧ n = 6 ∧ ∀ acts, Steps p.tables e below (S0 acts) ((T'.setTop f).pushFrame (.throwing q))
theorem mm_heap_top (T : State) (f : JFrame) : (T.setTop f).heap = T.heap := by
  simp [State.setTop, State.modifyTopJava]
theorem mm_run {y : MethodName} {cc' : ByteArray} {nL' fr lo : Nat} {ret' : Option FieldType} {L : mm_L} {av : List Value} {g g' : mm_M} {oc : Option Value ⊕ Nat} {T : State} (hC : mm_C l y cc' nL' ret' fr lo L av g oc g')
    (X : Stand p l e R s m args below meth c T locs cells slots) (hexec : p.tables.exec = Jvm.exec) (hJ : mm_J L) (hK : mm_K L s) (hst : ∀ e : Env, l.admits e → e.platform.stackTraces = false) (h0 : mm_ns L s) (hP : mm_P L g T.heap) (hF : ∀ q ∈ locs, mm_F L q.base)
    {f : JFrame} (hg : f.method = m) (hsize : f.locals.size = c.maxLocals) {ig : Instr} {len : Nat} (hdg : decode c.code f.pc = .ok (ig, len)) {mk : MethodId} (hn : s.methodNamed? y = some mk) (hcode : (Cond.code y cc' nL' ret').before args s = true) (hpl : plainName y.cls = true)
    (hfr : fr + 1 ≤ R.frames) (hlo : 8 + (nL' + 11) + lo ≤ R.locals) (hW : 2 * f.monitorRoom + (f.stack.map fun v => v.category).sum ≤ 8) (hce : cells + 1 ≤ R.cells) (hsl : slots + 6 ≤ R.slots) :
    mm_out p l e R s m args below meth c L T locs cells slots f len (fun acts => (doInvoke e (T.setTop f) acts mk av.toArray).1) oc g' := by
  have hnT : T.methodNamed? y = some mk := X.named hn
  obtain ⟨methk, ck, hmk0, hck, hbk, hlk, hrk, hlocks, hexk, -⟩ := Cond.code_spec hn hcode
  have hmk : T.vm.method? mk = some methk := by rw [X.warmed.alike.method?]; exact hmk0
  have hpk : T.plainMethod mk := State.plainMethod.of_named (plainFor_of_name hpl) hnT hmk
  obtain ⟨Y, hin⟩ := X.into hg hsize hdg av.toArray (R' := { frames := fr, cells := 1, slots := 6, locals := lo }) hmk hck hlocks hpk hfr (by rw [hlk]; show _ + _ + (nL' + 11) + lo ≤ _; omega) hce hsl
  have hstill : ∀ (q : Nat) (cell : Cell), s.heap[q]? = some cell → cell.vm.isStatics = true → T.heap[q]? = some cell := mm_still X h0 hF
  have hK' : mm_K L (T.calling f mk av.toArray) := hK.to (U := T.calling f mk av.toArray) X.warmed hstill
  have hfc : (T.calling f mk av.toArray).vm.findClass y.cls = some mk.cls := findClass_of_methodNamed (s := T) hnT
  have hXk : mm_X L cc' nL' y.cls ret' fr lo p l { frames := fr, cells := 1, slots := 6, locals := lo } (T.calling f mk av.toArray) mk methk ck := ⟨hexec, hbk, hlk, hfc, hrk, hlocks, by unfold mm_tab; simpa using hexk, Nat.le_refl _, Nat.le_refl _, Nat.le_refl _, Nat.le_refl _, hJ, hK', hst, fun q cell hq hc => hP.not_statics hq hc⟩
  obtain ⟨t, hs, hq1, hq2, hq3, ks, k, n, hq4, hq5, hq6⟩ := hC p e _ _ mk (.java f :: below) methk ck hXk hP ((T.setTop f).pushFrame (.java (entryFrame mk av.toArray ck.maxLocals))) rfl Y
  rw [hlk] at hin hs
  have hs' : ∀ acts, Steps p.tables e below (doInvoke e (T.setTop f) acts mk av.toArray).1 t := fun acts => by rw [hin acts]; exact Steps.weaken (mid := [.java f]) hs
  have hO : ∀ (q : Nat) (cell : Cell), ¬ mm_F L q → T.heap[q]? = some cell → t.heap[q]? = some cell := fun q cell hq hc => mm_frame (q := q) hq4 (fun z hz (e1 : z.base = q) => hq (e1 ▸ hq5 z hz)) hc
  cases oc with
  | inl v =>
    obtain ⟨hend, rfl, rfl⟩ := hq6
    obtain ⟨T', X', -, -, ht⟩ := X.outOf hg hdg hend hq2 hq4
    have hh : T'.heap = t.heap := by rw [ht, mm_heap_top]
    exact ⟨T', ks, 0, 0, X', hq5, by rw [hh]; exact hq3, by rw [hh]; exact hO, rfl, rfl, fun acts => ht ▸ hs' acts⟩
  | inr x =>
    obtain ⟨q, ce, hend, hc1, hc2, hc3, rfl, rfl⟩ := hq6
    obtain ⟨T', X', -, -, ht⟩ := X.outOfThrown hg hend hq2 hq4
    have hh : T'.heap = t.heap := by rw [ht, Stand.throwing_heap]
    have hc3' : s.vm.findClass (mm_ex x) = some ce.cls := by
      have h7 : T.vm.findClass (mm_ex x) = some ce.cls := hc3
      rw [X.warmed.alike.findClass] at h7
      exact h7
    exact ⟨T', ks, 1, 6, X', hq5, by rw [hh]; exact hq3, by rw [hh]; exact hO, q, ce, by rw [hh]; exact hc1, hc2, hc3', rfl, rfl, fun acts => ht ▸ hs' acts⟩
end MMA

/-- the words that every method rests on -/
def uw : List Cond := lw_tbl.filter goodWord
theorem uw_good {w : Cond} (h : w ∈ uw) : (w.onTables && w.keeps) = true ∨ ∃ ty, w = .arrayClass ty := good_of_word (List.mem_filter.mp h).2
theorem uw_tbl {w : Cond} (h : w ∈ uw) : w ∈ lw_tbl := (List.mem_filter.mp h).1
theorem uw_at (i : Nat) {w : Cond} (h : lw_tbl[i]? = some w) (g : goodWord w = true) : w ∈ uw := List.mem_filter.mpr ⟨List.mem_of_getElem? h, g⟩
/-- a class of the worlds: its number, its name, its table -/
def CK (ci : Nat) (C : String) (T : u_T) (N : Nat) (ty0 : Nat → FieldType) : Prop := vwCl[ci]? = some (C, T, N) ∧ (∀ w ∈ u_ws C T N, w ∈ uw) ∧ (∀ k, k < N → parseFieldDescriptor (T k).2.2.1 = some (ty0 k)) ∧ (∀ a, a < N → ∀ b, b < N → a ≠ b → (T a).2.1 ≠ (T b).2.1)
/-- a field's link: of the class own by its entry idx: the field j of kind ci -/
def FL (own : String) (idx ci j : Nat) (ty : FieldType) (fin : Bool) : Prop := ∃ (C : String) (T : u_T) (N : Nat) (ty0 : Nat → FieldType), CK ci C T N ty0 ∧ j < N ∧ Cond.fieldLink own idx (T j).1 (T j).2.1 (T j).2.2.1 ∈ uw ∧ (T j).2.2.2 = fin ∧ parseFieldDescriptor (T j).2.2.1 = some ty ∧ (fin = true → (T j).1 = own)
def FR (own : String) (idx ci j : Nat) : Prop := ∃ (C : String) (T : u_T) (N : Nat) (ty0 : Nat → FieldType), CK ci C T N ty0 ∧ j < N ∧ Cond.fieldLink own idx (T j).1 (T j).2.1 (T j).2.2.1 ∈ uw
theorem FL.r {own : String} {idx ci j : Nat} {ty : FieldType} {fin : Bool} (f : FL own idx ci j ty fin) : FR own idx ci j := by
  obtain ⟨C, T, N, ty0, c, f1, f2, -⟩ := f
  exact ⟨C, T, N, ty0, c, f1, f2⟩
/-- a method: its name, its code, its locals, its answer's type -/
abbrev gM : Type := MethodName × ByteArray × Nat × Option FieldType
/-- a link to a method -/
def MLb (own : String) (idx : Nat) (M : gM) (nA : Nat) : Prop := Cond.methodLink own idx M.1 ∈ uw ∧ Cond.code M.1 M.2.1 M.2.2.1 M.2.2.2 ∈ uw ∧ Cond.initialized M.1.cls ∈ uw ∧ (M.1.cls ≠ "java/lang/invoke/MethodHandle" ∧ M.1.cls ≠ "java/lang/invoke/VarHandle") ∧ (parseMethodDescriptor M.1.desc).map (fun d => d.parameters.length) = some nA ∧ M.2.2.1 ≤ 60
def MLv (own : String) (idx : Nat) (M : gM) (nA : Nat) : Prop := MLb own idx M nA ∧ Cond.instanceMethod M.1 ∈ uw ∧ Cond.selects M.1.cls M.1 M.1 ∈ uw
def MLs (own : String) (idx : Nat) (M : gM) (nA : Nat) : Prop := MLb own idx M nA ∧ Cond.static M.1 ∈ uw
def MLi (own : String) (idx : Nat) (M : gM) (nA : Nat) : Prop := MLb own idx M nA ∧ Cond.instanceMethod M.1 ∈ uw ∧ M.1.name = "<init>"

abbrev rMth : Type := MethodName × ByteArray × Nat × Option FieldType
/-! THE JUDGEMENT rW: a walk of method μ, at pc, locals ls, stack st, world h; and contracts rM -/
def rLeast : Nat → Int32 := fun j => if j = 3 ∨ j = 5 ∨ j = 6 then 1 else 0
def rUntold : Nat → Int32 := fun j => if j = 1 then 6 else if j = 2 then 2 else if j = 3 ∨ j = 4 then 3 else if j = 6 then 5 else 1
def rBadW : Cond → Bool
  | .fieldLinkNest .. | .methodLinkNest .. | .declares _ | .castable .. => true
  | .arrayOver (.object _) => true
  | _ => false
/-- the words that every state of a run keeps -/
def rTbl : List Cond := lw_tbl.filter (fun w => goodWord w || rBadW w)
theorem rBad_use {w : Cond} (h : rBadW w = true) {args : Array Value} {s : State} (hz : va_Nw w s) : w.before args s = true := by
  unfold rBadW at h
  split at h
  · exact va_Nw.use rfl hz
  · exact va_Nw.use rfl hz
  · exact va_Nw.use rfl hz
  · exact va_Nw.use rfl hz
  · exact va_AO.use hz
  · cases h
theorem rBad_warm {w : Cond} (h : rBadW w = true) {s U : State} (hW : s.WarmedH U.vm) (hz : va_Nw w s) : va_Nw w U := by
  unfold rBadW at h
  split at h
  · exact va_Nw.warmF hW hz
  · exact va_Nw.warmM hW hz
  · exact va_Nw.warmD hW hz
  · exact va_Nw.warmC hW hz
  · exact va_AO.moved hW.alike hz
  · cases h
/-- class ci of vwCl: what the field rows ask of it -/
def rCls (ci : Nat) (C : String) (T : u_T) (N : Nat) (ty : Nat → FieldType) : Prop :=
  vwCl[ci]? = some (C, T, N) ∧ (∀ w ∈ u_ws C T N, w ∈ rTbl) ∧ (∀ j, j < N → parseFieldDescriptor (T j).2.2.1 = some (ty j)) ∧ ∀ a, a < N → ∀ b, b < N → a ≠ b → (T a).2.1 ≠ (T b).2.1
/-- entry idx of class own's pool names field j of objects of class ci -/
def rFld (own : String) (idx ci j : Nat) (C : String) (T : u_T) (N : Nat) : Prop := vwCl[ci]? = some (C, T, N) ∧ j < N ∧ (∀ w ∈ u_ws C T N, w ∈ rTbl) ∧ (Cond.fieldLink own idx (T j).1 (T j).2.1 (T j).2.2.1 ∈ rTbl ∨ ∃ host, Cond.fieldLinkNest own idx (T j).1 (T j).2.1 (T j).2.2.1 host ∈ rTbl)
def rOk (μ : rMth) (n : Nat) : Prop := Cond.code μ.1 μ.2.1 μ.2.2.1 μ.2.2.2 ∈ rTbl ∧ Cond.initialized μ.1.cls ∈ rTbl ∧ (μ.1.cls ≠ "java/lang/invoke/MethodHandle" ∧ μ.1.cls ≠ "java/lang/invoke/VarHandle") ∧ (parseMethodDescriptor μ.1.desc).map (fun d => d.parameters.length) = some n ∧ plainName μ.1.cls = true
def rLnk (own : String) (idx : Nat) (y : MethodName) : Prop := Cond.methodLink own idx y ∈ rTbl ∨ ∃ host, Cond.methodLinkNest own idx y host ∈ rTbl
def rInst (C : String) (y : MethodName) : Prop := Cond.instanceMethod y ∈ rTbl ∧ Cond.selects C y y ∈ rTbl
/-- a call through a reference x (to a method of owner's) that selects μ' in class C -/
def rCU (own : String) (idx : Nat) (C owner : String) (x : MethodName) (μ' : rMth) (n : Nat) : Prop :=
  Cond.methodLink own idx x ∈ rTbl ∧ Cond.sameMethod x.cls owner x.name x.desc ∈ rTbl ∧ ((∃ (b : ByteArray) (m : Nat) (r : Option FieldType), Cond.code ⟨owner, x.name, x.desc⟩ b m r ∈ rTbl ∧ Cond.instanceMethod ⟨owner, x.name, x.desc⟩ ∈ rTbl) ∨ Cond.declares ⟨owner, x.name, x.desc⟩ ∈ rTbl) ∧
  Cond.selects C x μ'.1 ∈ rTbl ∧ Cond.instanceMethod μ'.1 ∈ rTbl ∧ (owner ≠ "java/lang/invoke/MethodHandle" ∧ owner ≠ "java/lang/invoke/VarHandle") ∧ (parseMethodDescriptor x.desc).map (fun d => d.parameters.length) = some n

/-! what a link says -/
/-- a link to a field: class number, place, final, type -/
def jfl (own : String) (idx ci i : Nat) (fin : Bool) (ty : FieldType) : Prop :=
  ci < 8 ∧ ∃ q : vw_C, vwCl[ci]? = some q ∧ i < q.2.2 ∧ Cond.fieldLink own idx (q.2.1 i).1 (q.2.1 i).2.1 (q.2.1 i).2.2.1 ∈ lw_good ∧ (q.2.1 i).2.2.2 = fin ∧ parseFieldDescriptor (q.2.1 i).2.2.1 = some ty
def jfit (ty : FieldType) (v : Value) : Prop := ∀ g : GG, narrow ty (jv g v) = jv g v ∧ fits ty (jv g v) = true
def jnl (own : String) (idx ci : Nat) (N : Nat) : Prop := ci < 8 ∧ ∃ q : vw_C, vwCl[ci]? = some q ∧ q.2.2 = N ∧ Cond.classLink own idx q.1 ∈ lw_good ∧ Cond.instantiable q.1 N ∈ lw_good ∧ Cond.initialized q.1 ∈ lw_good
/-- what is said of a method wherever it's called: its code, its class, its arguments' number -/
def jmc (y' : MI) (n : Nat) : Prop := Cond.code y'.1 y'.2.1 y'.2.2.1 y'.2.2.2 ∈ lw_good ∧ Cond.initialized y'.1.cls ∈ lw_good ∧ (y'.1.cls ≠ "java/lang/invoke/MethodHandle" ∧ y'.1.cls ≠ "java/lang/invoke/VarHandle") ∧ (parseMethodDescriptor y'.1.desc).map (fun d => d.parameters.length) = some n ∧ y'.2.2.1 ≤ 45
def b2i : Bool → Int32
  | true => 1
  | false => 0

/-! own rows: an abstract heap (a list of cells, the script the first), and one judgement J over it -/
def lw_good : List Cond := lw_tbl.filter goodWord
theorem lw_good_sub : ∀ w ∈ lw_good, w ∈ lw_tbl := fun w h => (List.mem_filter.mp h).1
theorem lw_good_of {w : Cond} (h : w ∈ lw_tbl) (hg : goodWord w = true) : w ∈ lw_good := List.mem_filter.mpr ⟨h, hg⟩
/-- a cell: its kind (below 8 the class of that number; 8 ints, 9 booleans, 10 scenes, 11 the script), its slots -/
abbrev AC : Type := Nat × List Value
/-- launch, the script's address, the first new address, the classes, the arrays' classes -/
abbrev GG : Type := Launch × Nat × Nat × va_G × (Nat → ClassId)
def jad (g : GG) : Nat → Nat
  | 0 => g.2.1
  | k + 1 => g.2.2.1 + k
def jv (g : GG) : Value → Value
  | .ref k => .ref (jad g k)
  | v => v
theorem jv_cat (g : GG) (v : Value) : (jv g v).category = v.category := by cases v <;> rfl
theorem jv_cats (g : GG) (l : List Value) : ((l.map (jv g)).map fun v => v.category) = l.map fun v => v.category := by
  rw [List.map_map]
  exact List.map_congr_left (fun v _ => jv_cat g v)
def jty : Nat → Option FieldType
  | 8 => some .int
  | 9 => some .boolean
  | 10 => some (.object "LychWeights$Scene")
  | 11 => some .int
  | _ => none
def jA (g : GG) : Nat → Prop := fun q => g.2.2.1 ≤ q
def jcell (g : GG) (H : Heap) (a : Nat) (c : AC) : Prop :=
  ∃ cell : Cell, H[a]? = some cell ∧ (∀ q, cell.vm ≠ .statics q) ∧ cell.vm ≠ .unknown ∧
    ((c.1 < 8 ∧ cell.cls = g.2.2.2.1.1 c.1 ∧ cell.vm = .none ∧ (∀ q : vw_C, vwCl[c.1]? = some q → c.2.length = q.2.2) ∧ ∀ (k : Nat) (v : Value), c.2[k]? = some v → cell.slots[g.2.2.2.1.2 c.1 k]? = some (jv g v)) ∨
     (8 ≤ c.1 ∧ cell.cls = g.2.2.2.2 c.1 ∧ cell.slots.size = c.2.length ∧ ∀ (k : Nat) (v : Value), c.2[k]? = some v → cell.slots[k]? = some (jv g v)))
def jH (g : GG) (H : Heap) (h : List AC) : Prop := 1 ≤ h.length ∧ H.size + 1 = g.2.2.1 + h.length ∧ g.2.1 < g.2.2.1 ∧ (∀ c : AC, h[0]? = some c → c.1 = 11) ∧ ∀ (k : Nat) (c : AC), h[k]? = some c → jcell g H (jad g k) c
def jnest : List (String × Nat × MethodName × String) := [("LychWeights", 39, ⟨"LychWeights$Scene", "<init>", "()V"⟩, "LychWeights"), ("LychWeights", 50, ⟨"LychWeights$History", "<init>", "()V"⟩, "LychWeights"), ("LychWeights$Shelf", 21, ⟨"LychWeights$Scene", "<init>", "()V"⟩, "LychWeights"), ("LychWeights$Reader", 122, ⟨"LychWeights", "isWithin", "(III)Z"⟩, "LychWeights"), ("LychWeights$Reader", 106, ⟨"LychWeights", "isIn", "(II)Z"⟩, "LychWeights"), ("LychWeights$Reader", 98, ⟨"LychWeights", "bit", "(I)I"⟩, "LychWeights"), ("LychWeights$Row", 21, ⟨"LychWeights", "isIn", "(II)Z"⟩, "LychWeights")]
def jK (g : GG) (U : State) : Prop :=
  va_K g.2.2.2.1 vwCl [] U ∧
  (∀ (t : Nat) (ty : FieldType), jty t = some ty → ∃ (k : Class) (comp : ClassId), U.vm.classes[g.2.2.2.2 t]? = some k ∧ k.kind = .array comp ty ∧ (t = 10 → comp = g.2.2.2.1.1 4)) ∧
  (∀ t : Nat, t < 11 → ∀ ty : FieldType, jty t = some ty → U.vm.findClass ("[" ++ ty.toString) = some (g.2.2.2.2 t)) ∧
  (∀ w ∈ jnest, va_Nw (.methodLinkNest w.1 w.2.1 w.2.2.1 w.2.2.2) U) ∧ va_AO "LychWeights$Scene" U
theorem jK.warm {g : GG} {s U : State} (hW : s.WarmedH U.vm) (h : jK g s) : jK g U := by
  obtain ⟨h1, h2, h3, h4, h5⟩ := h
  refine ⟨va_K.moved hW.alike h1, fun t ty e => ?_, fun t ht ty e => ?_, fun w hw => va_Nw.warmM hW (h4 w hw), va_AO.moved hW.alike h5⟩
  · obtain ⟨k, comp, a, b, c0⟩ := h2 t ty e
    obtain ⟨k', hk', he⟩ := hW.alike.2.2 _ _ a
    exact ⟨k', comp, hk', by rw [he]; exact b, c0⟩
  · rw [hW.alike.findClass]
    exact h3 t ht ty e
/-- what stays through a method, and the heap as it is -/
def jX (g : GG) (y : MI) (d mc ms : Nat) (h : List AC) (p : Program) (R : Room) (s : State) (m : MethodId) (args : Array Value) (meth : Method) (c : Code) (H : Heap) (locs : List Loc) (cells slots : Nat) : Prop :=
  (p.tables.exec = Jvm.exec ∧ c.code = y.2.1 ∧ c.maxLocals = y.2.2.1 ∧ meth.sig.returnType = y.2.2.2 ∧ meth.locks = false ∧ s.vm.findClass y.1.cls = some m.cls ∧ meth.name = y.1.name ∧
   (∀ w ∈ lw_good, w.before args s = true) ∧ jK g s ∧ d ≤ R.frames ∧ 64 * d ≤ R.locals ∧ g.2.2.1 ≤ s.heap.size) ∧
  (cells + mc ≤ R.cells ∧ slots + ms ≤ R.slots) ∧ jH g H h ∧ va_S (jA g) s.heap H locs
/-- the locals: what is known of them, by number -/
def jL (g : GG) (n : Nat) (lsr : Array Slot) (ls : List (Option Value)) : Prop := lsr.size = n ∧ lv_wf lsr ∧ ls.length = n ∧ ∀ (i : Nat) (v : Value), ls[i]? = some (some v) → v.category = 1 ∧ lsr[i]? = some (.val (jv g v))
def jZ (g : GG) (below : List Frame) (args : Array Value) (s : State) (kc ks : Nat) (Q : Option Value → List AC → Prop) : State → Prop := fun t =>
  ∃ (r : Option Value) (h' : List AC), Q r h' ∧ MQ below (fun _ st o u => o = .returned (r.map (jv g)) ∧ jH g u.heap h' ∧ va_F (jA g) st u) args s kc ks (jA g) t
/-- from here the method comes to its end, with Q of its answer and of the heap -/
def J (g : GG) (y : MI) (d mc ms : Nat) (Q : Option Value → List AC → Prop) (h : List AC) (pc : Nat) (ls : List (Option Value)) (st : List Value) : Prop :=
  ∀ (p : Program) (e : Env) (R : Room) (s : State) (m : MethodId) (args : Array Value) (below : List Frame) (meth : Method) (c : Code) (H : Heap) (locs : List Loc) (cells slots : Nat) (lsr : Array Slot),
    jX g y d mc ms h p R s m args meth c H locs cells slots → jL g y.2.2.1 lsr ls →
    W p g.1 e R s m args below meth c H locs cells slots (jZ g below args s (cells + mc) (slots + ms) Q) (F0 m pc lsr (st.map (jv g)))
section
variable {g : GG} {y : MI} {d mc ms : Nat} {Q : Option Value → List AC → Prop} {h : List AC} {pc : Nat} {ls : List (Option Value)} {st : List Value}
theorem J.post {Q' : Option Value → List AC → Prop} (k : J g y d mc ms Q h pc ls st) (hQ : ∀ r h', Q r h' → Q' r h') : J g y d mc ms Q' h pc ls st := by
  intro p e R s m args below meth c H locs cells slots lsr X L T hT S
  obtain ⟨t, a, r, h', q, b⟩ := k p e R s m args below meth c H locs cells slots lsr X L T hT S
  exact ⟨t, a, r, h', hQ r h' q, b⟩
theorem J.deeper {d' : Nat} (hd : d ≤ d') (k : J g y d mc ms Q h pc ls st) : J g y d' mc ms Q h pc ls st := by
  intro p e R s m args below meth c H locs cells slots lsr X L
  obtain ⟨⟨x1, x2, x3, x4, x5, x6, x7, x8, x9, x10, x11, x12⟩, X2⟩ := X
  exact k p e R s m args below meth c H locs cells slots lsr ⟨⟨x1, x2, x3, x4, x5, x6, x7, x8, x9, Nat.le_trans hd x10, Nat.le_trans (Nat.mul_le_mul_left 64 hd) x11, x12⟩, X2⟩ L
/-- less is known of the locals -/
def jle : List (Option Value) → List (Option Value) → Prop
  | [], [] => True
  | none :: a, _ :: b => jle a b
  | some v :: a, w :: b => w = some v ∧ jle a b
  | _ :: _, [] => False
  | [], _ :: _ => False
theorem jle_len : ∀ {a b : List (Option Value)}, jle a b → a.length = b.length
  | [], [], _ => rfl
  | none :: a, _ :: b, hl => by simpa using jle_len (a := a) (b := b) hl
  | some x :: a, w :: b, hl => by simpa using jle_len (a := a) (b := b) hl.2
theorem jle_at : ∀ {a b : List (Option Value)}, jle a b → ∀ (i : Nat) (v : Value), a[i]? = some (some v) → b[i]? = some (some v)
  | [], _, _, i, v, h => by simp at h
  | none :: a, _ :: b, hl, i, v, h => by
    cases i with
    | zero => simp at h
    | succ i => simpa using jle_at (a := a) (b := b) hl i v (by simpa using h)
  | some x :: a, w :: b, hl, i, v, h => by
    cases i with
    | zero =>
      simp at h
      subst h
      simp [hl.1]
    | succ i => simpa using jle_at (a := a) (b := b) hl.2 i v (by simpa using h)
theorem j_weak {ls' : List (Option Value)} (hl : jle ls' ls) (k : J g y d mc ms Q h pc ls' st) : J g y d mc ms Q h pc ls st := by
  intro p e R s m args below meth c H locs cells slots lsr X L
  exact k p e R s m args below meth c H locs cells slots lsr X ⟨L.1, L.2.1, (jle_len hl).trans L.2.2.1, fun i v hv => L.2.2.2 i v (jle_at hl i v hv)⟩
theorem jL.at {n : Nat} {lsr : Array Slot} {ls : List (Option Value)} (L : jL g n lsr ls) {i : Nat} {v : Value} (h : ls[i]? = some (some v)) : lsr[i]? = some (.val (jv g v)) := (L.2.2.2 i v h).2
/-- the known locals as the kit lists them -/
def jlist (g : GG) : Nat → List (Option Value) → List (Nat × Value)
  | _, [] => []
  | i, none :: l => jlist g (i + 1) l
  | i, some v :: l => (i, jv g v) :: jlist g (i + 1) l
theorem jlist_mem : ∀ (l : List (Option Value)) (i : Nat) (q : Nat × Value), q ∈ jlist g i l ↔ ∃ (k : Nat) (v : Value), l[k]? = some (some v) ∧ q = (i + k, jv g v)
  | [], i, q => by simp [jlist]
  | none :: l, i, q => by
    rw [show jlist g i (none :: l) = jlist g (i + 1) l from rfl, jlist_mem l (i + 1) q]
    constructor
    · rintro ⟨k, v, h1, h2⟩
      exact ⟨k + 1, v, by simpa using h1, by rw [h2]; congr 1; omega⟩
    · rintro ⟨k, v, h1, h2⟩
      cases k with
      | zero => simp at h1
      | succ k => exact ⟨k, v, by simpa using h1, by rw [h2]; congr 1; omega⟩
  | some w :: l, i, q => by
    rw [show jlist g i (some w :: l) = (i, jv g w) :: jlist g (i + 1) l from rfl, List.mem_cons, jlist_mem l (i + 1) q]
    constructor
    · rintro (h | ⟨k, v, h1, h2⟩)
      · exact ⟨0, w, by simp, by simpa using h⟩
      · exact ⟨k + 1, v, by simpa using h1, by rw [h2]; congr 1; omega⟩
    · rintro ⟨k, v, h1, h2⟩
      cases k with
      | zero =>
        simp at h1
        subst h1
        exact Or.inl (by simpa using h2)
      | succ k => exact Or.inr ⟨k, v, by simpa using h1, by rw [h2]; congr 1; omega⟩
theorem jL.has {n : Nat} {lsr : Array Slot} {ls : List (Option Value)} (L : jL g n lsr ls) : lv_has lsr n (jlist g 0 ls) := by
  refine ⟨L.1, L.2.1, fun q hq => ?_⟩
  obtain ⟨k, v, h1, rfl⟩ := (jlist_mem ls 0 q).mp hq
  rw [Nat.zero_add]
  exact L.at h1
theorem jL.set {n : Nat} {lsr lsr' : Array Slot} {ls : List (Option Value)} {i : Nat} {v : Value} (L0 : jL g n lsr ls) (hv : v.category = 1) (L : lv_has lsr' n ((i, jv g v) :: (jlist g 0 ls).filter (fun q => !(q.1 == i) && !(q.1 + 1 == i && q.2.category == 2)))) : jL g n lsr' (ls.set i (some v)) := by
  refine ⟨L.1, L.2.1, by rw [List.length_set]; exact L0.2.2.1, fun j w hj => ?_⟩
  by_cases e : j = i
  · subst e
    have hlt : j < ls.length := by
      have := (List.getElem?_eq_some_iff.mp hj).1
      simpa using this
    rw [List.getElem?_set_self hlt] at hj
    cases hj
    exact ⟨hv, L.2.2 _ List.mem_cons_self⟩
  · rw [List.getElem?_set_ne (Ne.symm e)] at hj
    have hw := (L0.2.2.2 j w hj).1
    refine ⟨hw, L.2.2 (j, jv g w) (List.mem_cons_of_mem _ (List.mem_filter.mpr ⟨(jlist_mem ls 0 _).mpr ⟨j, w, hj, by rw [Nat.zero_add]⟩, ?_⟩))⟩
    have hc : (jv g w).category = 1 := by rw [jv_cat]; exact hw
    simp [e, hc]
end

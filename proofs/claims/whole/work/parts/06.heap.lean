/-! rows for fields, arrays, new cells -/
theorem jad_inj {g : GG} {H : Heap} {h : List AC} (X : jH g H h) {i j : Nat} (e : jad g i = jad g j) : i = j := by
  have hb := X.2.2.1
  cases i with
  | zero => cases j with
    | zero => rfl
    | succ j =>
      have : g.2.1 = g.2.2.1 + j := e
      omega
  | succ i => cases j with
    | zero =>
      have : g.2.2.1 + i = g.2.1 := e
      omega
    | succ j =>
      have : g.2.2.1 + i = g.2.2.1 + j := e
      omega
theorem jad_A {g : GG} {k : Nat} (h : 0 < k) : jA g (jad g k) := by
  cases k with
  | zero => omega
  | succ k => exact Nat.le_add_right _ _
theorem jcell.kept {g : GG} {H H1 : Heap} {a : Nat} {c : AC} (X : jcell g H a c) (hq : H1[a]? = H[a]?) : jcell g H1 a c := by
  obtain ⟨cell, h1, h2⟩ := X
  exact ⟨cell, hq.trans h1, h2⟩
theorem jH.set {g : GG} {H H1 : Heap} {h : List AC} {a : Nat} {c0 c : AC} (X : jH g H h) (ha : h[a]? = some c0) (hz : H1.size = H.size) (hq : ∀ q : Nat, q ≠ jad g a → H1[q]? = H[q]?) (hc : jcell g H1 (jad g a) c) (h11 : c.1 = c0.1) : jH g H1 (h.set a c) := by
  refine ⟨by rw [List.length_set]; exact X.1, by rw [hz, List.length_set]; exact X.2.1, X.2.2.1, fun c' hc' => ?_, fun k c' hk => ?_⟩
  · by_cases e : a = 0
    · subst e
      have hl : 0 < h.length := (List.getElem?_eq_some_iff.mp ha).1
      rw [List.getElem?_set_self hl] at hc'
      cases hc'
      rw [h11]
      exact X.2.2.2.1 c0 ha
    · rw [List.getElem?_set_ne e] at hc'
      exact X.2.2.2.1 c' hc'
  · by_cases e : k = a
    · subst e
      have hl : k < h.length := (List.getElem?_eq_some_iff.mp ha).1
      rw [List.getElem?_set_self hl] at hk
      cases hk
      exact hc
    · rw [List.getElem?_set_ne (Ne.symm e)] at hk
      exact (X.2.2.2.2 k c' hk).kept (hq _ (fun q => e (jad_inj X q)))
theorem jH.push {g : GG} {H H1 : Heap} {h : List AC} {c : AC} (X : jH g H h) (hz : H1.size = H.size + 1) (hq : ∀ q : Nat, q < H.size → H1[q]? = H[q]?) (hc : jcell g H1 H.size c) : jH g H1 (h ++ [c]) ∧ jad g h.length = H.size := by
  have hl := X.1
  have hs := X.2.1
  have hb := X.2.2.1
  have had : jad g h.length = H.size := by
    cases hn : h.length with
    | zero => omega
    | succ n => show g.2.2.1 + n = H.size; omega
  refine ⟨⟨by simp, by rw [hz]; simp; omega, hb, fun c' hc' => ?_, fun k c' hk => ?_⟩, had⟩
  · rw [List.getElem?_append_left (by omega)] at hc'
    exact X.2.2.2.1 c' hc'
  · by_cases hk2 : k < h.length
    · rw [List.getElem?_append_left hk2] at hk
      have hlt : jad g k < H.size := by
        obtain ⟨cell, h1, -⟩ := X.2.2.2.2 k c' hk
        exact (Array.getElem?_eq_some_iff.mp h1).1
      exact (X.2.2.2.2 k c' hk).kept (hq _ hlt)
    · rw [List.getElem?_append_right (by omega)] at hk
      have h0 : k - h.length < 1 := (List.getElem?_eq_some_iff.mp hk).1
      have hke : k = h.length := by omega
      subst hke
      rw [Nat.sub_self] at hk
      cases hk
      rw [had]
      exact hc
theorem jH.pos {g : GG} {H : Heap} {h : List AC} {a : Nat} {c : AC} (X : jH g H h) (ha : h[a]? = some c) (hc : c.1 ≠ 11) : 0 < a := by
  cases a with
  | zero => exact absurd (X.2.2.2.1 c ha) hc
  | succ a => exact Nat.succ_pos a
/-- what the tables say of a class: its words, its fields' types, its names apart -/
theorem jcls_w : ∀ (ci : Nat) (q : vw_C), vwCl[ci]? = some q → ∀ w ∈ u_ws q.1 q.2.1 q.2.2, w ∈ lw_good := by
  have key : ∀ {l : List Cond}, (∀ w ∈ l, w ∈ lw_tbl) → l.all goodWord = true → ∀ w ∈ l, w ∈ lw_good := fun h1 h2 w hw => lw_good_of (h1 w hw) (List.all_eq_true.mp h2 w hw)
  intro ci q h
  match ci, h with
  | 0, h => cases h; exact key (l := wsX00) (by decide +kernel) (by decide +kernel)
  | 1, h => cases h; exact key (l := wsX10) (by decide +kernel) (by decide +kernel)
  | 2, h => cases h; exact key (l := wsX20) (by decide +kernel) (by decide +kernel)
  | 3, h => cases h; exact key (l := wsX30) (by decide +kernel) (by decide +kernel)
  | 4, h => cases h; exact key (l := wsX40) (by decide +kernel) (by decide +kernel)
  | 5, h => cases h; exact key (l := wsX50) (by decide +kernel) (by decide +kernel)
  | 6, h => cases h; exact key (l := wsX60) (by decide +kernel) (by decide +kernel)
  | 7, h => cases h; exact key (l := wsX70) (by decide +kernel) (by decide +kernel)
  | n + 8, h => simp [vwCl] at h
theorem jcls_t : ∀ (ci : Nat) (q : vw_C), vwCl[ci]? = some q → ∃ ty : Nat → FieldType, (∀ k, k < q.2.2 → parseFieldDescriptor (q.2.1 k).2.2.1 = some (ty k)) ∧ ∀ a, a < q.2.2 → ∀ b, b < q.2.2 → a ≠ b → (q.2.1 a).2.1 ≠ (q.2.1 b).2.1 := by
  intro ci q h
  match ci, h with
  | 0, h => cases h; exact ⟨tyX0, tyX0_ok, nmX0⟩
  | 1, h => cases h; exact ⟨tyX1, tyX1_ok, nmX1⟩
  | 2, h => cases h; exact ⟨tyX2, tyX2_ok, nmX2⟩
  | 3, h => cases h; exact ⟨tyX3, tyX3_ok, nmX3⟩
  | 4, h => cases h; exact ⟨tyX4, tyX4_ok, nmX4⟩
  | 5, h => cases h; exact ⟨tyX5, tyX5_ok, nmX5⟩
  | 6, h => cases h; exact ⟨tyX6, tyX6_ok, nmX6⟩
  | 7, h => cases h; exact ⟨tyX7, tyX7_ok, nmX7⟩
  | n + 8, h => simp [vwCl] at h
def iv (n : Nat) (f : Nat → Int32) : List Value := (List.range n).map fun j => .int (f j)
def zv (n : Nat) (f : Nat → Bool) : List Value := (List.range n).map fun j => .int (b2i (f j))
theorem iv_len (n : Nat) (f : Nat → Int32) : (iv n f).length = n := by simp [iv]
theorem zv_len (n : Nat) (f : Nat → Bool) : (zv n f).length = n := by simp [zv]
theorem iv_at {n : Nat} (f : Nat → Int32) {j : Nat} (hj : j < n) : (iv n f)[j]? = some (.int (f j)) := by simp [iv, hj]
theorem zv_at {n : Nat} (f : Nat → Bool) {j : Nat} (hj : j < n) : (zv n f)[j]? = some (.int (b2i (f j))) := by simp [zv, hj]
theorem iv_in {n : Nat} {f : Nat → Int32} {j : Nat} {v : Value} (h : (iv n f)[j]? = some v) : j < n ∧ v = .int (f j) := by
  have hj : j < n := by
    have := (List.getElem?_eq_some_iff.mp h).1
    rwa [iv_len] at this
  rw [iv_at f hj] at h
  exact ⟨hj, (Option.some.inj h).symm⟩
theorem zv_in {n : Nat} {f : Nat → Bool} {j : Nat} {v : Value} (h : (zv n f)[j]? = some v) : j < n ∧ v = .int (b2i (f j)) := by
  have hj : j < n := by
    have := (List.getElem?_eq_some_iff.mp h).1
    rwa [zv_len] at this
  rw [zv_at f hj] at h
  exact ⟨hj, (Option.some.inj h).symm⟩
theorem jcell_put {g : GG} {H' : Heap} {a ci i : Nat} {fs : List Value} {v : Value} {cell : Cell} {q : vw_C} (hc8 : ci < 8) (hq : vwCl[ci]? = some q) (hap : ∀ x y, x < q.2.2 → y < q.2.2 → x ≠ y → g.2.2.2.1.2 ci x ≠ g.2.2.2.1.2 ci y) (hi : i < q.2.2) (c2 : ∀ z, cell.vm ≠ .statics z) (c3 : cell.vm ≠ .unknown) (e1 : cell.cls = g.2.2.2.1.1 ci) (e2 : cell.vm = .none)
    (e4 : ∀ q : vw_C, vwCl[ci]? = some q → fs.length = q.2.2) (e3 : ∀ (k : Nat) (v : Value), fs[k]? = some v → cell.slots[g.2.2.2.1.2 ci k]? = some (jv g v)) (g1 : H'[a]? = some (cell.setSlot (g.2.2.2.1.2 ci i) (jv g v))) : jcell g H' a (ci, fs.set i v) := by
  have hN : fs.length = q.2.2 := e4 q hq
  have hlen : i < fs.length := by rw [hN]; exact hi
  refine ⟨_, g1, c2, c3, Or.inl ⟨hc8, e1, e2, fun q' hq' => by rw [List.length_set]; exact e4 q' hq', fun j w hw => ?_⟩⟩
  by_cases hji : j = i
  · subst hji
    rw [List.getElem?_set_self hlen] at hw
    cases hw
    obtain ⟨v0, hv0⟩ : ∃ v0, fs[j]? = some v0 := ⟨_, List.getElem?_eq_getElem hlen⟩
    have := k2_hasslot (e3 j v0 hv0)
    simp [Cell.setSlot, this]
  · rw [List.getElem?_set_ne (Ne.symm hji)] at hw
    have hj := e3 j w hw
    have hjN : j < q.2.2 := by rw [← hN]; exact (List.getElem?_eq_some_iff.mp hw).1
    have hne := hap i j hi hjN (Ne.symm hji)
    simp only [Cell.setSlot]
    rw [Array.getElem?_setIfInBounds_ne hne]
    exact hj
section
variable {g : GG} {y : MI} {d mc ms : Nat} {Q : Option Value → List AC → Prop} {h : List AC} {pc : Nat} {ls : List (Option Value)} {st : List Value}
theorem j_getf {idx ci i a : Nat} {fin : Bool} {ty : FieldType} {fs : List Value} {v : Value} (hd : decode y.2.1 pc = .ok (.getfield idx, 3)) (hl : jfl y.1.cls idx ci i fin ty) (ha : h[a]? = some (ci, fs)) (hv : fs[i]? = some v) (k : J g y d mc ms Q h (pc + 3) ls (v :: st)) : J g y d mc ms Q h pc ls (.ref a :: st) := by
  intro p e R s m args below meth c H locs cells slots lsr X L
  obtain ⟨hc8, q, hq, hi, hlk, -⟩ := hl
  obtain ⟨cell, c1, c2, c3, c4⟩ := X.2.2.1.2.2.2.2 a _ ha
  rcases c4 with ⟨-, e1, e2, e4, e3⟩ | ⟨c8, -⟩
  · obtain ⟨hS, hfc, kC, hkC, hkind⟩ := X.1.2.2.2.2.2.2.2.2.1.1.1 ci q hq
    obtain ⟨cf, kf, fi, f, hf, hsl⟩ := hS i hi
    have hin := jcls_w ci q hq
    refine W.getf (cell := cell) (v := jv g v) X.1.1 X.1.2.1 X.1.2.2.2.2.2.1 (X.1.2.2.2.2.2.2.2.1 _ hlk) hf (u_facts hfc hkC (u_lays X.1.2.2.2.2.2.2.2.1 hin hi) hf).1 c1 c3 ?_ rfl rfl hd (k p e R s m args below meth c H locs cells slots lsr X L)
    rw [hsl]
    exact e3 i v hv
  · exact absurd hc8 (Nat.not_lt.mpr c8)
theorem j_putf {idx ci i a : Nat} {ty : FieldType} {fs : List Value} {v : Value} {h2 : List AC} (hd : decode y.2.1 pc = .ok (.putfield idx, 3)) (hl : jfl y.1.cls idx ci i false ty) (hv : jfit ty v) (ha : h[a]? = some (ci, fs)) (hs : h.set a (ci, fs.set i v) = h2) (k : J g y d mc ms Q h2 (pc + 3) ls st) : J g y d mc ms Q h pc ls (v :: .ref a :: st) := by
  intro p e R s m args below meth c H locs cells slots lsr X L
  subst hs
  obtain ⟨hc8, q, hq, hi, hlk, hfin, hty⟩ := hl
  obtain ⟨cell, c1, c2, c3, c4⟩ := X.2.2.1.2.2.2.2 a _ ha
  rcases c4 with ⟨-, e1, e2, e4, e3⟩ | ⟨c8, -⟩
  · have hK := X.1.2.2.2.2.2.2.2.2.1.1
    obtain ⟨hS, hfc, kC, hkC, hkind⟩ := hK.1 ci q hq
    obtain ⟨cf, kf, fi, f, hf, hsl⟩ := hS i hi
    have hin := jcls_w ci q hq
    obtain ⟨ty0, hty0, hnm⟩ := jcls_t ci q hq
    have hts := X.1.2.2.2.2.2.2.2.1
    have hap := va_apart (own := y.1.cls) hts hin ty0 hty0 hnm hK hq
    have hlay := hts _ (hin _ (u_in_lay hi))
    unfold u_lay at hlay
    rw [if_neg (by rw [hfin]; decide)] at hlay
    have hst := (u_facts hfc hkC (u_lays hts hin hi) hf).1
    have h6 := u_store hfc hkC hkind hlay hf hty (hv g).1 (hv g).2
    have hpos := X.2.2.1.pos ha (by show ci ≠ 11; omega)
    have hN : fs.length = q.2.2 := e4 q hq
    have hlen : i < fs.length := by rw [hN]; exact hi
    obtain ⟨v0, hv0⟩ : ∃ v0, fs[i]? = some v0 := ⟨_, List.getElem?_eq_getElem hlen⟩
    refine W.putK X.1.1 X.1.2.1 (f := f) ⟨X.1.2.2.2.2.2.1, hts _ hlk, ⟨_, _, _, hf⟩, hst⟩ (by rw [e1]; exact h6) c1 e2 (by rw [hsl]; exact k2_hasslot (e3 i v0 hv0)) rfl rfl hd fun H' g1 g2 g3 => ?_
    rw [hsl] at g1 ⊢
    exact k p e R s m args below meth c H' _ cells slots lsr ⟨X.1, X.2.1, X.2.2.1.set ha g2 g3 (jcell_put hc8 hq hap hi c2 c3 e1 e2 e4 e3 g1) rfl, X.2.2.2.put g2 g3 (jad_A hpos)⟩ L
  · exact absurd hc8 (Nat.not_lt.mpr c8)
theorem j_putF {idx ci i a : Nat} {ty : FieldType} {fs : List Value} {v : Value} {h2 : List AC} (hd : decode y.2.1 pc = .ok (.putfield idx, 3)) (hl : jfl y.1.cls idx ci i true ty) (hinit : y.1.name = "<init>") (hdecl : ∀ q : vw_C, vwCl[ci]? = some q → (q.2.1 i).1 = y.1.cls) (hv : jfit ty v) (ha : h[a]? = some (ci, fs)) (hs : h.set a (ci, fs.set i v) = h2) (k : J g y d mc ms Q h2 (pc + 3) ls st) : J g y d mc ms Q h pc ls (v :: .ref a :: st) := by
  intro p e R s m args below meth c H locs cells slots lsr X L
  subst hs
  obtain ⟨hc8, q, hq, hi, hlk, hfin, hty⟩ := hl
  have hdecl := hdecl q hq
  obtain ⟨cell, c1, c2, c3, c4⟩ := X.2.2.1.2.2.2.2 a _ ha
  rcases c4 with ⟨-, e1, e2, e4, e3⟩ | ⟨c8, -⟩
  · have hK := X.1.2.2.2.2.2.2.2.2.1.1
    obtain ⟨hS, hfc, kC, hkC, hkind⟩ := hK.1 ci q hq
    obtain ⟨cf, kf, fi, f, hf, hsl⟩ := hS i hi
    have hin := jcls_w ci q hq
    obtain ⟨ty0, hty0, hnm⟩ := jcls_t ci q hq
    have hts := X.1.2.2.2.2.2.2.2.1
    have hown := X.1.2.2.2.2.2.1
    have hap := va_apart (own := y.1.cls) hts hin ty0 hty0 hnm hK hq
    have hlay := hts _ (hin _ (u_in_lay hi))
    unfold u_lay at hlay
    rw [if_pos hfin] at hlay
    have hst := (u_facts hfc hkC (u_lays hts hin hi) hf).1
    have hcf : m.cls = cf := by
      obtain ⟨_, _, c', _, _, _, -, -, hf', -, -, -, hown2, -⟩ := Cond.laysFinal_spec hlay
      have z1 : c' = cf := by have := hf.symm.trans hf'; simp at this; exact this.1.symm
      rw [hdecl] at hown2
      rw [← z1]; exact Option.some.inj (hown.symm.trans hown2)
    have h6 := u_fits hfc hkC hkind (Or.inr hlay) hf hty (hv g).1 (hv g).2
    have hpos := X.2.2.1.pos ha (by show ci ≠ 11; omega)
    have hN : fs.length = q.2.2 := e4 q hq
    have hlen : i < fs.length := by rw [hN]; exact hi
    obtain ⟨v0, hv0⟩ : ∃ v0, fs[i]? = some v0 := ⟨_, List.getElem?_eq_getElem hlen⟩
    refine W.putFinK X.1.1 X.1.2.1 hown (hts _ hlk) hf hst hcf (X.1.2.2.2.2.2.2.1.trans hinit) (by rw [e1]; exact h6) c1 e2 (by rw [hsl]; exact k2_hasslot (e3 i v0 hv0)) rfl rfl hd fun H' g1 g2 g3 => ?_
    rw [hsl] at g1 ⊢
    exact k p e R s m args below meth c H' _ cells slots lsr ⟨X.1, X.2.1, X.2.2.1.set ha g2 g3 (jcell_put hc8 hq hap hi c2 c3 e1 e2 e4 e3 g1) rfl, X.2.2.2.put g2 g3 (jad_A hpos)⟩ L
  · exact absurd hc8 (Nat.not_lt.mpr c8)
/-- an array's cell -/
theorem jarr {H : Heap} {h : List AC} {a t : Nat} {vs : List Value} (X : jH g H h) (ht : 8 ≤ t) (ha : h[a]? = some (t, vs)) : ∃ cell : Cell, H[jad g a]? = some cell ∧ (∀ q, cell.vm ≠ .statics q) ∧ cell.vm ≠ .unknown ∧ cell.cls = g.2.2.2.2 t ∧ cell.slots.size = vs.length ∧ ∀ (k : Nat) (v : Value), vs[k]? = some v → cell.slots[k]? = some (jv g v) := by
  obtain ⟨cell, c1, c2, c3, c4⟩ := X.2.2.2.2 a _ ha
  rcases c4 with ⟨c8, -⟩ | ⟨-, e1, e2, e3⟩
  · exact absurd ht (Nat.not_le.mpr c8)
  · exact ⟨cell, c1, c2, c3, e1, e2, e3⟩
theorem jty_8 {t : Nat} {ty : FieldType} (ht : jty t = some ty) : 8 ≤ t := by
  match t, ht with
  | 0, h | 1, h | 2, h | 3, h | 4, h | 5, h | 6, h | 7, h => simp [jty] at h
  | n + 8, _ => omega
theorem jarrOf {s : State} (hK : jK g s) {t : Nat} {ty : FieldType} (ht : jty t = some ty) {cell : Cell} (hc : cell.cls = g.2.2.2.2 t) (hv : ∀ q, cell.vm ≠ .statics q) : s.isArrayOf cell ty := by
  obtain ⟨k, comp, h1, h2, -⟩ := hK.2.1 t ty ht
  exact ⟨hv, k, by rw [hc]; exact h1, comp, h2⟩
theorem j_iald {a t n : Nat} {f : Nat → Int32} {i : Int32} (hd : decode y.2.1 pc = .ok (.iaload, 1)) (ha : h[a]? = some (t, iv n f)) (ht : jty t = some .int) (hi : vp_in i n) (k : J g y d mc ms Q h (pc + 1) ls (.int (f i.toNatClampNeg) :: st)) : J g y d mc ms Q h pc ls (.int i :: .ref a :: st) := by
  intro p e R s m args below meth c H locs cells slots lsr X L
  obtain ⟨cell, c1, c2, c3, e1, e2, e3⟩ := jarr X.2.2.1 (jty_8 ht) ha
  have hlt : i.toNatClampNeg < n := Nat.not_le.mp fun q => hi (Or.inr q)
  exact W.iald (v := .int (f i.toNatClampNeg)) X.1.1 X.1.2.1 c1 (jarrOf X.1.2.2.2.2.2.2.2.2.1 ht e1 c2) c3 (by rw [e2, iv_len]; exact hi) (e3 _ _ (iv_at f hlt)) rfl rfl hd (k p e R s m args below meth c H locs cells slots lsr X L)
theorem j_zald {a n : Nat} {f : Nat → Bool} {i : Int32} (hd : decode y.2.1 pc = .ok (.baload, 1)) (ha : h[a]? = some (9, zv n f)) (hi : vp_in i n) (k : J g y d mc ms Q h (pc + 1) ls (.int (b2i (f i.toNatClampNeg)) :: st)) : J g y d mc ms Q h pc ls (.int i :: .ref a :: st) := by
  intro p e R s m args below meth c H locs cells slots lsr X L
  obtain ⟨cell, c1, c2, c3, e1, e2, e3⟩ := jarr X.2.2.1 (by decide) ha
  have hlt : i.toNatClampNeg < n := Nat.not_le.mp fun q => hi (Or.inr q)
  exact W.zald (v := .int (b2i (f i.toNatClampNeg))) X.1.1 X.1.2.1 c1 (jarrOf X.1.2.2.2.2.2.2.2.2.1 rfl e1 c2) c3 (by rw [e2, zv_len]; exact hi) (e3 _ _ (zv_at f hlt)) rfl rfl hd (k p e R s m args below meth c H locs cells slots lsr X L)
theorem j_aald {a n b : Nat} {vs : List Value} {i : Int32} (hd : decode y.2.1 pc = .ok (.aaload, 1)) (ha : h[a]? = some (10, vs)) (hn : vs.length = n) (hi : vp_in i n) (hv : vs[i.toNatClampNeg]? = some (.ref b)) (k : J g y d mc ms Q h (pc + 1) ls (.ref b :: st)) : J g y d mc ms Q h pc ls (.int i :: .ref a :: st) := by
  intro p e R s m args below meth c H locs cells slots lsr X L
  obtain ⟨cell, c1, c2, c3, e1, e2, e3⟩ := jarr X.2.2.1 (by decide) ha
  exact W.aald (v := jv g (.ref b)) (ty := .object "LychWeights$Scene") X.1.1 X.1.2.1 c1 (jarrOf X.1.2.2.2.2.2.2.2.2.1 rfl e1 c2) rfl c3 (by rw [e2, hn]; exact hi) (e3 _ _ hv) rfl rfl hd (k p e R s m args below meth c H locs cells slots lsr X L)
theorem j_alen {a t : Nat} {vs : List Value} {ty : FieldType} {x : Int32} (hd : decode y.2.1 pc = .ok (.arraylength, 1)) (ha : h[a]? = some (t, vs)) (ht : jty t = some ty) (hx : Int32.ofNat vs.length = x) (k : J g y d mc ms Q h (pc + 1) ls (.int x :: st)) : J g y d mc ms Q h pc ls (.ref a :: st) := by
  intro p e R s m args below meth c H locs cells slots lsr X L
  obtain ⟨cell, c1, c2, c3, e1, e2, e3⟩ := jarr X.2.2.1 (jty_8 ht) ha
  exact W.alen (n := x) X.1.1 X.1.2.1 c1 (jarrOf X.1.2.2.2.2.2.2.2.2.1 ht e1 c2) (by rw [e2]; exact hx) rfl rfl hd (k p e R s m args below meth c H locs cells slots lsr X L)
theorem jcell_store {H H' : Heap} {a t j : Nat} {vs : List Value} {v : Value} {cell : Cell} (ht : 8 ≤ t) (hj : j < vs.length) (c2 : ∀ z, cell.vm ≠ .statics z) (c3 : cell.vm ≠ .unknown) (e1 : cell.cls = g.2.2.2.2 t) (e2 : cell.slots.size = vs.length) (e3 : ∀ (k : Nat) (v : Value), vs[k]? = some v → cell.slots[k]? = some (jv g v)) (g1 : H'[a]? = some (cell.setSlot j (jv g v))) : jcell g H' a (t, vs.set j v) := by
  refine ⟨_, g1, c2, c3, Or.inr ⟨ht, e1, ?_, fun k w hw => ?_⟩⟩
  · simp [Cell.setSlot, e2]
  · by_cases hk : k = j
    · subst hk
      rw [List.getElem?_set_self hj] at hw
      cases hw
      simp [Cell.setSlot, e2, hj]
    · rw [List.getElem?_set_ne (Ne.symm hk)] at hw
      simp only [Cell.setSlot]
      rw [Array.getElem?_setIfInBounds_ne (Ne.symm hk)]
      exact e3 k w hw
theorem iv_set {n : Nat} (f : Nat → Int32) (j : Nat) (x : Int32) : (iv n f).set j (.int x) = iv n (upd f j x) := by
  apply List.ext_getElem?
  intro k
  by_cases hk : k < n
  · by_cases e : k = j
    · subst e
      rw [List.getElem?_set_self (by rw [iv_len]; exact hk), iv_at _ hk]
      simp [upd]
    · rw [List.getElem?_set_ne (Ne.symm e), iv_at _ hk, iv_at _ hk]
      simp [upd, e]
  · rw [List.getElem?_eq_none (by rw [List.length_set, iv_len]; omega), List.getElem?_eq_none (by rw [iv_len]; omega)]
def updB (f : Nat → Bool) (k : Nat) (x : Bool) : Nat → Bool := fun j => if j = k then x else f j
theorem zv_set {n : Nat} (f : Nat → Bool) (j : Nat) (x : Bool) : (zv n f).set j (.int (b2i x)) = zv n (updB f j x) := by
  apply List.ext_getElem?
  intro k
  by_cases hk : k < n
  · by_cases e : k = j
    · subst e
      rw [List.getElem?_set_self (by rw [zv_len]; exact hk), zv_at _ hk]
      simp [updB]
    · rw [List.getElem?_set_ne (Ne.symm e), zv_at _ hk, zv_at _ hk]
      simp [updB, e]
  · rw [List.getElem?_eq_none (by rw [List.length_set, zv_len]; omega), List.getElem?_eq_none (by rw [zv_len]; omega)]
theorem j_iast {a n : Nat} {f : Nat → Int32} {i x : Int32} {h2 : List AC} (hd : decode y.2.1 pc = .ok (.iastore, 1)) (ha : h[a]? = some (8, iv n f)) (hi : vp_in i n) (hs : h.set a (8, iv n (upd f i.toNatClampNeg x)) = h2) (k : J g y d mc ms Q h2 (pc + 1) ls st) : J g y d mc ms Q h pc ls (.int x :: .int i :: .ref a :: st) := by
  intro p e R s m args below meth c H locs cells slots lsr X L
  subst hs
  obtain ⟨cell, c1, c2, c3, e1, e2, e3⟩ := jarr X.2.2.1 (by decide) ha
  have hlt : i.toNatClampNeg < n := Nat.not_le.mp fun q => hi (Or.inr q)
  refine W.iast X.1.1 X.1.2.1 c1 (jarrOf (t := 8) X.1.2.2.2.2.2.2.2.2.1 rfl e1 c2) c3 (by rw [e2, iv_len]; exact hi) rfl rfl hd fun H' g1 g2 g3 => ?_
  have hc := jcell_store (g := g) (H := H) (v := .int x) (by decide) (by rw [iv_len]; exact hlt) c2 c3 e1 e2 e3 g1
  rw [iv_set] at hc
  exact k p e R s m args below meth c H' _ cells slots lsr ⟨X.1, X.2.1, X.2.2.1.set ha g2 g3 hc rfl, X.2.2.2.put g2 g3 (jad_A (X.2.2.1.pos ha (fun q => by cases q)))⟩ L
theorem j_zast {a n : Nat} {f : Nat → Bool} {i x : Int32} {b : Bool} {h2 : List AC} (hd : decode y.2.1 pc = .ok (.bastore, 1)) (hb : x = b2i b) (ha : h[a]? = some (9, zv n f)) (hi : vp_in i n) (hs : h.set a (9, zv n (updB f i.toNatClampNeg b)) = h2) (k : J g y d mc ms Q h2 (pc + 1) ls st) : J g y d mc ms Q h pc ls (.int x :: .int i :: .ref a :: st) := by
  intro p e R s m args below meth c H locs cells slots lsr X L
  subst hs
  subst hb
  obtain ⟨cell, c1, c2, c3, e1, e2, e3⟩ := jarr X.2.2.1 (by decide) ha
  have hlt : i.toNatClampNeg < n := Nat.not_le.mp fun q => hi (Or.inr q)
  refine W.zast X.1.1 X.1.2.1 c1 (jarrOf (t := 9) X.1.2.2.2.2.2.2.2.2.1 rfl e1 c2) c3 (by rw [e2, zv_len]; exact hi) rfl rfl hd fun H' g1 g2 g3 => ?_
  have hn : narrow .boolean (.int (b2i b)) = .int (b2i b) := by cases b <;> rfl
  rw [hn] at g1
  have hc := jcell_store (g := g) (H := H) (v := .int (b2i b)) (by decide) (by rw [zv_len]; exact hlt) c2 c3 e1 e2 e3 g1
  rw [zv_set] at hc
  exact k p e R s m args below meth c H' _ cells slots lsr ⟨X.1, X.2.1, X.2.2.1.set ha g2 g3 hc rfl, X.2.2.2.put g2 g3 (jad_A (X.2.2.1.pos ha (fun q => by cases q)))⟩ L
end

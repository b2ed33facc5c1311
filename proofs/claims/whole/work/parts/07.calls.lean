/-! rows for new cells and for calls -/
/-- what a new object's slots hold -/
def jdef (ci : Nat) (fs : List Value) : Prop := ∀ q : vw_C, vwCl[ci]? = some q → fs.length = q.2.2 ∧ ∀ k, k < q.2.2 → ∃ ty : FieldType, parseFieldDescriptor (q.2.1 k).2.2.1 = some ty ∧ ∃ v, fs[k]? = some v ∧ defaultValue ty = v ∧ ∀ g : GG, jv g v = v
section
variable {g : GG} {y : MI} {d mc ms : Nat} {Q : Option Value → List AC → Prop} {h : List AC} {pc : Nat} {ls : List (Option Value)} {st : List Value}
theorem va_S.grow {A : Nat → Prop} {H0 H H1 : Heap} {locs : List Loc} (h : va_S A H0 H locs) (hz : H1.size = H.size + 1) (hq : ∀ q : Nat, q < H.size → H1[q]? = H[q]?) : va_S A H0 H1 locs :=
  ⟨Nat.le_trans h.1 (by omega), fun x h1 h2 => (hq x (Nat.lt_of_lt_of_le h1 h.1)).trans (h.2.1 x h1 h2), h.2.2⟩
theorem j_new {idx ci N : Nat} {fs : List Value} (hd : decode y.2.1 pc = .ok (.new idx, 3)) (hl : jnl y.1.cls idx ci N) (hf : jdef ci fs) {mc1 ms1 : Nat} (hmc : mc = mc1 + 1) (hms : ms = ms1 + N) (k : J g y d mc1 ms1 Q (h ++ [(ci, fs)]) (pc + 3) ls (.ref h.length :: st)) : J g y d mc ms Q h pc ls st := by
  intro p e R s m args below meth c H locs cells slots lsr X L
  subst hmc
  subst hms
  obtain ⟨hc8, q, hq, rfl, w1, w2, w3⟩ := hl
  obtain ⟨hf1, hf2⟩ := hf q hq
  have hK := X.1.2.2.2.2.2.2.2.2.1.1
  have hKn := hK.1 ci q hq
  have hts := X.1.2.2.2.2.2.2.2.1
  obtain ⟨ty0, hty0, hnm⟩ := jcls_t ci q hq
  have hr1 := X.2.1.1
  have hr2 := X.2.1.2
  refine W.newcK X.1.1 X.1.2.1 X.1.2.2.2.2.2.1 (hts _ w1) (hts _ w2) (hts _ w3) rfl hd (by omega) (by omega) hKn.2.1 rfl fun H1 kC hkC e1 z1 o1 => ?_
  have hb := u_born ty0 hts (jcls_w ci q hq) hKn hkC e1 hty0
  obtain ⟨cell, b1, b2, b3, b4⟩ := hb
  have hcell : jcell g H1 H.size (ci, fs) := by
    refine ⟨cell, b1, (fun z hz => by rw [b3] at hz; cases hz), (by rw [b3]; exact fun z => by cases z), Or.inl ⟨hc8, b2, b3, fun q' hq' => ?_, fun j v hj => ?_⟩⟩
    · cases hq.symm.trans hq'
      exact hf1
    · have hjN : j < q.2.2 := by rw [← hf1]; exact (List.getElem?_eq_some_iff.mp hj).1
      obtain ⟨ty, t1, w, t2, t3, t4⟩ := hf2 j hjN
      rw [show fs[j]? = some v from hj] at t2
      cases t2
      rw [t4 g, ← t3, b4 j hjN]
      have := (hty0 j hjN).symm.trans t1
      show some (defaultValue (ty0 j)) = _
      rw [Option.some.inj this]
  obtain ⟨hH1, had⟩ := X.2.2.1.push z1 o1 hcell
  have kk := k p e R s m args below meth c H1 locs (cells + 1) (slots + q.2.2) lsr ⟨X.1, ⟨by omega, by omega⟩, hH1, X.2.2.2.grow z1 o1⟩ L
  rw [show cells + 1 + mc1 = cells + (mc1 + 1) by omega, show slots + q.2.2 + ms1 = slots + (ms1 + q.2.2) by omega] at kk
  rw [show (Value.ref h.length :: st).map (jv g) = .ref H.size :: st.map (jv g) by rw [List.map_cons, ← had]; rfl] at kk
  exact kk
theorem j_newarr {at' : ArrayType} {ty : FieldType} {t N : Nat} {i : Int32} {vs : List Value} (hd : decode y.2.1 pc = .ok (.newarray at', 2)) (hty : newarray.typeOf at' = ty) (ht : jty t = some ty) (ht11 : t < 11) (hw : Cond.arrayClass ty ∈ lw_good) (hi : ¬ i < 0) (hN : i.toNatClampNeg = N) (hb : N * componentBytes ty ≤ 536870912)
    (hvs : vs.length = N) (hdv : ∀ (k : Nat) (v : Value), vs[k]? = some v → jv g v = defaultValue ty) {mc1 ms1 : Nat} (hmc : mc = mc1 + 1) (hms : ms = ms1 + N) (k : J g y d mc1 ms1 Q (h ++ [(t, vs)]) (pc + 2) ls (.ref h.length :: st)) : J g y d mc ms Q h pc ls (.int i :: st) := by
  intro p e R s m args below meth c H locs cells slots lsr X L
  subst hmc
  subst hms
  subst hty
  have hts := X.1.2.2.2.2.2.2.2.1
  have hr1 := X.2.1.1
  have hr2 := X.2.1.2
  refine va_newaK X.1.1 X.1.2.1 (hts _ hw) rfl hd rfl hi hN hb (by omega) (by omega) rfl fun H1 cA e1 z1 o1 hAr hNm => ?_
  have hcA : cA = g.2.2.2.2 t := Option.some.inj (hNm.symm.trans (X.1.2.2.2.2.2.2.2.2.1.2.2.1 t ht11 _ ht))
  have hcell : jcell g H1 H.size (t, vs) := by
    refine ⟨_, e1, (fun z hz => by cases hz), (fun z => by cases z), Or.inr ⟨jty_8 ht, hcA, by rw [arrV_size]; exact hvs.symm, fun j v hj => ?_⟩⟩
    have hjN : j < N := by rw [← hvs]; exact (List.getElem?_eq_some_iff.mp hj).1
    rw [arrV_read _ _ hjN, hdv j v hj]
  obtain ⟨hH1, had⟩ := X.2.2.1.push z1 o1 hcell
  have kk := k p e R s m args below meth c H1 locs (cells + 1) (slots + N) lsr ⟨X.1, ⟨by omega, by omega⟩, hH1, X.2.2.2.grow z1 o1⟩ L
  rw [show cells + 1 + mc1 = cells + (mc1 + 1) by omega, show slots + N + ms1 = slots + (ms1 + N) by omega] at kk
  rw [show (Value.ref h.length :: st).map (jv g) = .ref H.size :: st.map (jv g) by rw [List.map_cons, ← had]; rfl] at kk
  exact kk
theorem j_anewarr {idx N : Nat} {i : Int32} (hd : decode y.2.1 pc = .ok (.anewarray idx, 3)) (hw : Cond.classLink y.1.cls idx "LychWeights$Scene" ∈ lw_good) (hi : ¬ i < 0) (hN : i.toNatClampNeg = N) (hb : N * 4 ≤ 536870912)
    {mc1 ms1 : Nat} (hmc : mc = mc1 + 1) (hms : ms = ms1 + N) (k : J g y d mc1 ms1 Q (h ++ [(10, List.replicate N .null)]) (pc + 3) ls (.ref h.length :: st)) : J g y d mc ms Q h pc ls (.int i :: st) := by
  intro p e R s m args below meth c H locs cells slots lsr X L
  subst hmc
  subst hms
  subst hN
  have hts := X.1.2.2.2.2.2.2.2.1
  have hr1 := X.2.1.1
  have hr2 := X.2.1.2
  refine W.anew X.1.1 X.1.2.1 X.1.2.2.2.2.2.1 (hts _ hw) (va_AO.use X.1.2.2.2.2.2.2.2.2.1.2.2.2.2) rfl hd rfl hi hb (by omega) (by omega) fun cA kA comp hNm k1 k2 k3 => ?_
  have hcA : cA = g.2.2.2.2 10 := Option.some.inj (hNm.symm.trans (X.1.2.2.2.2.2.2.2.2.1.2.2.1 10 (by decide) _ rfl))
  have o1 : ∀ q : Nat, q < H.size → (H.push { cls := cA, slots := Array.replicate i.toNatClampNeg .null, vm := .none })[q]? = H[q]? := fun q hq => by
    rw [Array.getElem?_push, if_neg (Nat.ne_of_lt hq)]
  have z1 : (H.push ({ cls := cA, slots := Array.replicate i.toNatClampNeg .null, vm := .none } : Cell)).size = H.size + 1 := by simp
  have hcell : jcell g (H.push { cls := cA, slots := Array.replicate i.toNatClampNeg .null, vm := .none }) H.size (10, List.replicate i.toNatClampNeg .null) := by
    refine ⟨{ cls := cA, slots := Array.replicate i.toNatClampNeg .null, vm := .none }, by simp, (fun z hz => by cases hz), (fun z => by cases z), Or.inr ⟨show 8 ≤ 10 by decide, hcA, by simp, fun j v hj => ?_⟩⟩
    have hj : (List.replicate i.toNatClampNeg Value.null)[j]? = some v := hj
    rw [List.getElem?_replicate] at hj
    by_cases hjn : j < i.toNatClampNeg
    · rw [if_pos hjn] at hj
      cases hj
      simp [hjn, jv]
    · rw [if_neg hjn] at hj
      cases hj
  obtain ⟨hH1, had⟩ := X.2.2.1.push z1 o1 hcell
  have kk := k p e R s m args below meth c _ locs (cells + 1) (slots + i.toNatClampNeg) lsr ⟨X.1, ⟨by omega, by omega⟩, hH1, X.2.2.2.grow z1 o1⟩ L
  rw [show cells + 1 + mc1 = cells + (mc1 + 1) by omega, show slots + i.toNatClampNeg + ms1 = slots + (ms1 + i.toNatClampNeg) by omega] at kk
  rw [show (Value.ref h.length :: st).map (jv g) = .ref H.size :: st.map (jv g) by rw [List.map_cons, ← had]; rfl] at kk
  exact kk
theorem j_aast {a b n : Nat} {vs fs : List Value} {i : Int32} {h2 : List AC} (hd : decode y.2.1 pc = .ok (.aastore, 1)) (ha : h[a]? = some (10, vs)) (hn : vs.length = n) (hi : vp_in i n) (hb : h[b]? = some (4, fs)) (hs : h.set a (10, vs.set i.toNatClampNeg (.ref b)) = h2) (k : J g y d mc ms Q h2 (pc + 1) ls st) : J g y d mc ms Q h pc ls (.ref b :: .int i :: .ref a :: st) := by
  intro p e R s m args below meth c H locs cells slots lsr X L
  subst hs
  have hlt : i.toNatClampNeg < n := Nat.not_le.mp fun q => hi (Or.inr q)
  have h0 : ¬ i < 0 := fun q => hi (Or.inl q)
  obtain ⟨cell, c1, c2, c3, e1, e2, e3⟩ := jarr X.2.2.1 (by decide) ha
  obtain ⟨cellV, v1, v2, v3, v4⟩ := X.2.2.1.2.2.2.2 b _ hb
  rcases v4 with ⟨-, w1, w2, -, -⟩ | ⟨c8, -⟩
  · have hK := X.1.2.2.2.2.2.2.2.2.1
    obtain ⟨kA, comp, k1, k2, k3⟩ := hK.2.1 10 _ rfl
    have hcls := (hK.1.1 4 (RX4, TX4, 6) rfl).2
    have hcomp := k3 rfl
    subst hcomp
    obtain ⟨kC, hkC, -⟩ := hcls.2
    refine W.aast X.1.1 X.1.2.1 c1 c2 c3 (by rw [e1]; exact k1) k2 rfl hkC ⟨h0, by rw [e2, hn]; exact hlt⟩ v1 v2 (by rw [w1]; exact hkC) (by rw [w1]; exact va_assign hcls) rfl rfl hd fun H' g1 g2 g3 => ?_
    have hc := jcell_store (g := g) (H := H) (v := .ref b) (by decide) (by rw [hn]; exact hlt) c2 c3 e1 e2 e3 g1
    exact k p e R s m args below meth c H' _ cells slots lsr ⟨X.1, X.2.1, X.2.2.1.set ha g2 g3 hc rfl, X.2.2.2.put g2 g3 (jad_A (X.2.2.1.pos ha (fun q => by cases q)))⟩ L
  · exact absurd c8 (show ¬ 8 ≤ 4 by decide)
theorem jroom {m : MethodId} {lsr : Array Slot} {rest : List Value} (hr : (rest.map fun v => v.category).sum ≤ 8) {st0 : List Value} : 2 * (F0 m pc lsr st0).monitorRoom + ((rest.map (jv g)).map fun v => v.category).sum ≤ 8 := by
  rw [jv_cats]
  exact lv_room (rest := st0) hr
theorem j_objinit {idx a : Nat} (hd : decode y.2.1 pc = .ok (.invokespecial idx, 3)) (hw : Cond.methodLink y.1.cls idx Lib.objectInit ∈ lw_good) (hw2 : Cond.instanceMethod Lib.objectInit ∈ lw_good) (hw3 : Cond.code Lib.objectInit ⟨#[0xb1]⟩ 1 none ∈ lw_good) (hd1 : 1 ≤ d) (hr : (st.map fun v => v.category).sum ≤ 8) (k : J g y d mc ms Q h (pc + 3) ls st) : J g y d mc ms Q h pc ls (.ref a :: st) := by
  intro p e R s m args below meth c H locs cells slots lsr X L
  have hts := X.1.2.2.2.2.2.2.2.1
  have r1 := X.1.2.2.2.2.2.2.2.2.2.1
  have r2 := X.1.2.2.2.2.2.2.2.2.2.2.1
  have hro := jroom (g := g) (m := m) (pc := pc) (lsr := lsr) (st0 := (Value.ref a :: st).map (jv g)) hr
  refine W.objInit X.1.1 X.1.2.1 X.1.2.2.2.2.2.1 (hts _ hw) (hts _ hw2) (hts _ hw3) rfl (by show lsr.size = _; rw [L.1]; exact X.1.2.2.1.symm) rfl hd (by omega) ?_ (k p e R s m args below meth c H locs cells slots lsr X L)
  omega
/-- a method's contract -/
def jws (y : MI) : List Cond := .code y.1 y.2.1 y.2.2.1 y.2.2.2 :: lw_good
def C (g : GG) (d mc ms : Nat) (y : MI) (av : List Value) (h : List AC) (Q : Option Value → List AC → Prop) : Prop :=
  ∀ R : Room, R.cells = mc → R.slots = ms → d ≤ R.frames → 64 * d ≤ R.locals →
    Met g.1 y.1 (jws y) R (fun a U => a = (av.map (jv g)).toArray ∧ g.2.2.1 ≤ U.heap.size ∧ jH g U.heap h ∧ jK g U)
      (fun _ st o t => ∃ (r : Option Value) (h' : List AC), Q r h' ∧ o = .returned (r.map (jv g)) ∧ jH g t.heap h' ∧ va_F (jA g) st t) mc ms (jA g)
theorem C.deeper {d' : Nat} {av : List Value} (hd : d ≤ d') (k : C g d mc ms y av h Q) : C g d' mc ms y av h Q :=
  fun R h1 h2 h3 h4 => k R h1 h2 (Nat.le_trans hd h3) (Nat.le_trans (Nat.mul_le_mul_left 64 hd) h4)
/-- the locals at a method's entry -/
def jent (n : Nat) (av : List Value) : List (Option Value) := av.map some ++ List.replicate (n - av.length) none
theorem jent_at : ∀ (av : List Value) (i : Nat), (∀ v ∈ av, v.category = 1) → ∀ (j : Nat) (v : Value), av[j]? = some v → (i + j, jv g v) ∈ lv_args i (av.map (jv g))
  | [], i, _, j, v, h => by simp at h
  | w :: av, i, hc, j, v, h => by
    have hw : (jv g w).category = 1 := by rw [jv_cat]; exact hc w List.mem_cons_self
    rw [List.map_cons, show lv_args i (jv g w :: av.map (jv g)) = (i, jv g w) :: lv_args (if (jv g w).category = 2 then i + 2 else i + 1) (av.map (jv g)) from rfl, hw]
    cases j with
    | zero =>
      simp at h
      subst h
      exact List.mem_cons_self
    | succ j =>
      refine List.mem_cons_of_mem _ ?_
      have := jent_at av (i + 1) (fun v hv => hc v (List.mem_cons_of_mem _ hv)) j v (by simpa using h)
      rw [show i + 1 + j = i + (j + 1) by omega] at this
      simpa using this
theorem lg_sl_one : ∀ (av : List Value), (∀ v ∈ av, v.category = 1) → (lg_sl (av.map (jv g))).length = av.length
  | [], _ => rfl
  | w :: av, hc => by
    have hw : (jv g w).category = 1 := by rw [jv_cat]; exact hc w List.mem_cons_self
    have := lg_sl_one av (fun v hv => hc v (List.mem_cons_of_mem _ hv))
    simp only [lg_sl, List.map_cons, List.flatMap_cons, hw] at this ⊢
    simp at this ⊢
    omega
theorem C.of {av : List Value} (hp : plainName y.1.cls = true) (hc : ∀ v ∈ av, v.category = 1) (hn : av.length ≤ y.2.2.1) (k : J g y d mc ms Q h 0 (jent y.2.2.1 av) []) : C g d mc ms y av h Q := by
  intro R h1 h2 h3 h4
  refine Met.ofW (cc := y.2.1) (maxL := y.2.2.1) (ret := y.2.2.2) hp rfl ?_
  intro p e s m args below meth c s₁ B hml hv
  obtain ⟨rfl, hb, hH, hK⟩ := hv
  have hts0 := atoms_spec (ws := jws y) B.pre
  have hown : s.vm.findClass y.1.cls = some m.cls := findClass_of_methodNamed B.named
  have hname : meth.name = y.1.name := (name_of_methodNamed B.named B.method).1
  rw [lg_entry_eq]
  have hl := lv_entry (av.map (jv g)) (n := y.2.2.1) (by rw [lg_sl_one av hc]; exact hn)
  generalize (lg_sl (av.map (jv g)) ++ List.replicate (y.2.2.1 - (lg_sl (av.map (jv g))).length) Slot.unset).toArray = lsr at hl ⊢
  have L : jL g y.2.2.1 lsr (jent y.2.2.1 av) := by
    refine ⟨hl.1, hl.2.1, by simp [jent]; omega, fun i v hi => ?_⟩
    have hi2 : av[i]? = some v := by
      unfold jent at hi
      by_cases e : i < av.length
      · rw [List.getElem?_append_left (by simpa using e)] at hi
        simpa using hi
      · rw [List.getElem?_append_right (by simp; omega)] at hi
        rw [List.getElem?_replicate] at hi
        split at hi
        · cases hi
        · cases hi
    refine ⟨hc v (List.mem_of_getElem? hi2), ?_⟩
    have := hl.2.2 _ (jent_at (g := g) av 0 hc i v hi2)
    simpa using this
  have kk := k p e R s m (av.map (jv g)).toArray below meth c s.heap [] 0 0 lsr ⟨⟨B.exec, B.bytes, hml, B.returns, B.notSynchronized, hown, hname, fun w hw => hts0 w (List.mem_cons_of_mem _ hw), hK, h3, h4, hb⟩, ⟨by omega, by omega⟩, hH, va_S.rf⟩ L
  intro T hT S
  obtain ⟨t, a, r, h', hq, o, b1, b2, b3, b4⟩ := kk T hT S
  rw [Nat.zero_add, Nat.zero_add] at b4
  exact ⟨t, a, o, b1, b2, ⟨r, h', hq, b3⟩, b4⟩
theorem C.blind {av : List Value} : FrameBlind (fun (a : Array Value) (U : State) => a = (av.map (jv g)).toArray ∧ g.2.2.1 ≤ U.heap.size ∧ jH g U.heap h ∧ jK g U) :=
  fun a U gf mk q => ⟨q.1, q.2.1, q.2.2.1, q.2.2.2.warm (s := U) (U := U.calling gf mk a) (State.WarmedH.refl U)⟩
def jroomOf (d mc ms : Nat) : Room := { frames := d, cells := mc, slots := ms, locals := 64 * d }
theorem jpay {s : State} {args : Array Value} (hts : ∀ w ∈ lw_good, w.before args s = true) {y' : MI} {n : Nat} (hm : jmc y' n) : ∀ w ∈ jws y', ∀ (a' : Array Value) (U : State), s.WarmedH U.vm → w.before a' U = true := by
  have hg : ∀ w ∈ lw_good, goodWord w = true := fun w hw => (List.mem_filter.mp hw).2
  refine pay_in hts (fun w hw => ?_)
  rcases List.mem_cons.mp hw with rfl | hw
  · exact ⟨hm.1, good_of_word (hg _ hm.1)⟩
  · exact ⟨hw, good_of_word (hg _ hw)⟩
/-- behind a call -/
theorem jback {mc' ms' mc1 : Nat} {ms1 : Nat} {Q' : Option Value → List AC → Prop} {p : Program} {e : Env} {R : Room} {s : State} {m : MethodId} {args : Array Value} {below : List Frame} {meth : Method} {c : Code} {H : Heap} {locs : List Loc} {cells slots : Nat} {lsr : Array Slot} {st0 : List Value}
    (X : jX g y d (mc' + mc1) (ms' + ms1) h p R s m args meth c H locs cells slots) (L : jL g y.2.2.1 lsr ls)
    (hr : va_Run p g.1 e R s m args below meth c H locs cells slots mc' ms' (F0 m pc lsr st0) (st.map (jv g)) (fun st o t => ∃ (r : Option Value) (h' : List AC), Q' r h' ∧ o = .returned (r.map (jv g)) ∧ jH g t.heap h' ∧ va_F (jA g) st t) (jA g))
    (k : ∀ (r : Option Value) (h' : List AC), Q' r h' → J g y d mc1 ms1 Q h' (pc + 3) ls (r.toList ++ st)) :
    W p g.1 e R s m args below meth c H locs cells slots (jZ g below args s (cells + (mc' + mc1)) (slots + (ms' + ms1)) Q) (F0 m pc lsr st0) := by
  intro T hT S
  obtain ⟨v, st₀, t, T', L', h0, S', hL, e1, e2, ⟨r, h', hq, ho, hH, hz, hk⟩, go⟩ := hr T hT S
  have hv : v = r.map (jv g) := by
    have := ho
    injection this
  subst hv
  rw [h0] at hz hk
  have hS := X.2.2.2
  have hS1 : va_S (jA g) s.heap T'.heap (locs ++ L') := by
    refine ⟨Nat.le_trans hS.1 (by rw [e1]; exact hz), fun q h1 h2 => ?_, fun q hq => ?_⟩
    · rw [e1, hk q (Nat.lt_of_lt_of_le h1 hS.1) h2]
      exact hS.2.1 q h1 h2
    · rcases List.mem_append.mp hq with h1 | h1
      · exact hS.2.2 q h1
      · exact hL q h1
  have hr1 := X.2.1.1
  have hr2 := X.2.1.2
  have kk := k r h' hq p e R s m args below meth c T'.heap (locs ++ L') (cells + mc') (slots + ms') lsr ⟨X.1, ⟨by omega, by omega⟩, by rw [e1]; exact hH, hS1⟩ L
  rw [show cells + mc' + mc1 = cells + (mc' + mc1) by omega, show slots + ms' + ms1 = slots + (ms' + ms1) by omega] at kk
  obtain ⟨t2, a1, b1⟩ := kk T' rfl S'
  refine ⟨t2, go t2 ?_, b1⟩
  have : (r.toList ++ st).map (jv g) = (r.map (jv g)).toList ++ st.map (jv g) := by cases r <;> simp
  rw [this] at a1
  exact a1
theorem jcall_S {y' : MI} {n idx d' mc' ms' mc1 ms1 : Nat} {As : List Value} {Q' : Option Value → List AC → Prop} {st0 : List Value} (hd : decode y.2.1 pc = .ok (.invokestatic idx, 3)) (hm : jmc y' n) (hw : Cond.methodLink y.1.cls idx y'.1 ∈ lw_good) (hw2 : Cond.static y'.1 ∈ lw_good) (hd' : d' < d) (hC : C g d' mc' ms' y' As h Q') (hst : st0 = As.reverse ++ st) (hn : As.length = n) (hr : (st.map fun v => v.category).sum ≤ 8)
    (k : ∀ (r : Option Value) (h' : List AC), Q' r h' → J g y d mc1 ms1 Q h' (pc + 3) ls (r.toList ++ st)) : J g y d (mc' + mc1) (ms' + ms1) Q h pc ls st0 := by
  intro p e R s m args below meth c H locs cells slots lsr X L
  subst hst
  obtain ⟨m1, m2, m3, m4, m5⟩ := hm
  have hts := X.1.2.2.2.2.2.2.2.1
  have r1 := X.1.2.2.2.2.2.2.2.2.2.1
  have r2 := X.1.2.2.2.2.2.2.2.2.2.2.1
  have hM := hC (jroomOf d' mc' ms') rfl rfl (Nat.le_refl _) (Nat.le_refl _)
  have hr1 := X.2.1.1
  have hr2 := X.2.1.2
  refine jback X L (va_runS (As := As.map (jv g)) (rest := st.map (jv g)) (n := n) ⟨X.1.1, X.1.2.1, X.1.2.2.1, X.1.2.2.2.2.2.1, hts⟩ hM ⟨⟨rfl, rfl, ?_, ?_, jpay hts ⟨m1, m2, m3, m4, m5⟩, List.mem_cons_self, hts _ m1, hts _ m2, m3, ?_, hts _ hw⟩, hts _ hw2⟩ ⟨C.blind, fun U hU hW => ⟨rfl, ?_, ?_, X.1.2.2.2.2.2.2.2.2.1.warm hW⟩⟩ rfl ?_ L.1 ?_ (jroom hr) hd ⟨?_, ?_⟩) k
  · show d' + 1 ≤ _; omega
  · show 8 + (_ + 11) + 64 * d' ≤ _; omega
  · intro sig hsig
    rw [hsig] at m4
    exact (Option.some.inj m4).symm
  · rw [hU]; exact Nat.le_trans X.1.2.2.2.2.2.2.2.2.2.2.2 X.2.2.2.1
  · rw [hU]; exact X.2.2.1
  · simpa using hn
  · simp
  · omega
  · omega
theorem jcall_V {y' : MI} {n idx d' mc' ms' mc1 ms1 a ci : Nat} {fs : List Value} {q : vw_C} {As : List Value} {Q' : Option Value → List AC → Prop} {st0 : List Value} (hd : decode y.2.1 pc = .ok (.invokevirtual idx, 3)) (hm : jmc y' n) (hw : Cond.methodLink y.1.cls idx y'.1 ∈ lw_good) (hw2 : Cond.instanceMethod y'.1 ∈ lw_good) (hw3 : Cond.selects y'.1.cls y'.1 y'.1 ∈ lw_good) (hq : vwCl[ci]? = some q) (hcls : y'.1.cls = q.1) (ha : h[a]? = some (ci, fs)) (hd' : d' < d) (hC : C g d' mc' ms' y' (.ref a :: As) h Q') (hst : st0 = As.reverse ++ .ref a :: st) (hn : As.length = n) (hr : (st.map fun v => v.category).sum ≤ 8)
    (k : ∀ (r : Option Value) (h' : List AC), Q' r h' → J g y d mc1 ms1 Q h' (pc + 3) ls (r.toList ++ st)) : J g y d (mc' + mc1) (ms' + ms1) Q h pc ls st0 := by
  intro p e R s m args below meth c H locs cells slots lsr X L
  subst hst
  obtain ⟨m1, m2, m3, m4, m5⟩ := hm
  have hts := X.1.2.2.2.2.2.2.2.1
  have r1 := X.1.2.2.2.2.2.2.2.2.2.1
  have r2 := X.1.2.2.2.2.2.2.2.2.2.2.1
  have hM := hC (jroomOf d' mc' ms') rfl rfl (Nat.le_refl _) (Nat.le_refl _)
  have hr1 := X.2.1.1
  have hr2 := X.2.1.2
  have hrecv : ∃ cell : Cell, H[jad g a]? = some cell ∧ cell.vm.isStatics = false ∧ s.vm.findClass q.1 = some cell.cls := by
    obtain ⟨cell, c1, c2, c3, c4⟩ := X.2.2.1.2.2.2.2 a _ ha
    rcases c4 with ⟨-, e1, e2, -⟩ | ⟨c8, -⟩
    · exact ⟨cell, c1, by rw [e2]; rfl, by rw [e1]; exact (X.1.2.2.2.2.2.2.2.2.1.1.1 ci q hq).2.1⟩
    · have : ci < vwCl.length := (List.getElem?_eq_some_iff.mp hq).1
      exact absurd this (Nat.not_lt.mpr c8)
  refine jback X L (va_runV (As := As.map (jv g)) (rest := st.map (jv g)) (n := n) (C := q.1) (b := jad g a) ⟨X.1.1, X.1.2.1, X.1.2.2.1, X.1.2.2.2.2.2.1, hts⟩ hM ⟨⟨rfl, rfl, ?_, ?_, jpay hts ⟨m1, m2, m3, m4, m5⟩, List.mem_cons_self, hts _ m1, hts _ m2, m3, ?_, hts _ hw⟩, hts _ hw2, by rw [← hcls]; exact hts _ hw3⟩ ⟨C.blind, hrecv, fun U hU hW => ⟨rfl, ?_, ?_, X.1.2.2.2.2.2.2.2.2.1.warm hW⟩⟩ rfl ?_ L.1 ?_ (jroom hr) hd ⟨?_, ?_⟩) k
  · show d' + 1 ≤ _; omega
  · show 8 + (_ + 11) + 64 * d' ≤ _; omega
  · intro sig hsig
    rw [hsig] at m4
    exact (Option.some.inj m4).symm
  · rw [hU]; exact Nat.le_trans X.1.2.2.2.2.2.2.2.2.2.2.2 X.2.2.2.1
  · rw [hU]; exact X.2.2.1
  · simpa using hn
  · simp [jv]
  · omega
  · omega
theorem jcall_I {y' : MI} {n idx d' mc' ms' mc1 ms1 a : Nat} {As : List Value} {Q' : Option Value → List AC → Prop} {st0 : List Value} (hd : decode y.2.1 pc = .ok (.invokespecial idx, 3)) (hm : jmc y' n) (hret : y'.2.2.2 = none) (hname : y'.1.name = "<init>") (hw : Cond.methodLink y.1.cls idx y'.1 ∈ lw_good) (hw2 : Cond.instanceMethod y'.1 ∈ lw_good) (hd' : d' < d) (hC : C g d' mc' ms' y' (.ref a :: As) h Q') (hst : st0 = As.reverse ++ .ref a :: st) (hn : As.length = n) (hr : (st.map fun v => v.category).sum ≤ 8)
    (k : ∀ (r : Option Value) (h' : List AC), Q' r h' → J g y d mc1 ms1 Q h' (pc + 3) ls (r.toList ++ st)) : J g y d (mc' + mc1) (ms' + ms1) Q h pc ls st0 := by
  intro p e R s m args below meth c H locs cells slots lsr X L
  subst hst
  obtain ⟨m1, m2, m3, m4, m5⟩ := hm
  have hts := X.1.2.2.2.2.2.2.2.1
  have r1 := X.1.2.2.2.2.2.2.2.2.2.1
  have r2 := X.1.2.2.2.2.2.2.2.2.2.2.1
  have hM := hC (jroomOf d' mc' ms') rfl rfl (Nat.le_refl _) (Nat.le_refl _)
  have hr1 := X.2.1.1
  have hr2 := X.2.1.2
  have hm1 := m1
  rw [hret] at hm1
  refine jback X L (va_runI (As := As.map (jv g)) (rest := st.map (jv g)) (n := n) (b := jad g a) (bytes := y'.2.1) (maxL := y'.2.2.1) ⟨X.1.1, X.1.2.1, X.1.2.2.1, X.1.2.2.2.2.2.1, hts⟩ hM ⟨⟨rfl, rfl, ?_, ?_, jpay hts ⟨m1, m2, m3, m4, m5⟩, by rw [jws, hret]; exact List.mem_cons_self, hts _ hm1, hts _ m2, m3, ?_, hts _ hw⟩, hname, hts _ hw2⟩ ⟨C.blind, fun U hU hW => ⟨rfl, ?_, ?_, X.1.2.2.2.2.2.2.2.2.1.warm hW⟩⟩ rfl ?_ L.1 ?_ (jroom hr) hd ⟨?_, ?_⟩) k
  · show d' + 1 ≤ _; omega
  · show 8 + (_ + 11) + 64 * d' ≤ _; omega
  · intro sig hsig
    rw [hsig] at m4
    exact (Option.some.inj m4).symm
  · rw [hU]; exact Nat.le_trans X.1.2.2.2.2.2.2.2.2.2.2.2 X.2.2.2.1
  · rw [hU]; exact X.2.2.1
  · simpa using hn
  · simp [jv]
  · omega
  · omega
theorem jcall_SN {y' : MI} {n idx d' mc' ms' mc1 ms1 : Nat} {As : List Value} {Q' : Option Value → List AC → Prop} {st0 : List Value} (hd : decode y.2.1 pc = .ok (.invokestatic idx, 3)) (hm : jmc y' n) (hw : (y.1.cls, idx, y'.1, "LychWeights") ∈ jnest) (hw2 : Cond.static y'.1 ∈ lw_good) (hd' : d' < d) (hC : C g d' mc' ms' y' As h Q') (hst : st0 = As.reverse ++ st) (hn : As.length = n) (hr : (st.map fun v => v.category).sum ≤ 8)
    (k : ∀ (r : Option Value) (h' : List AC), Q' r h' → J g y d mc1 ms1 Q h' (pc + 3) ls (r.toList ++ st)) : J g y d (mc' + mc1) (ms' + ms1) Q h pc ls st0 := by
  intro p e R s m args below meth c H locs cells slots lsr X L
  subst hst
  obtain ⟨m1, m2, m3, m4, m5⟩ := hm
  have hts := X.1.2.2.2.2.2.2.2.1
  have r1 := X.1.2.2.2.2.2.2.2.2.2.1
  have r2 := X.1.2.2.2.2.2.2.2.2.2.2.1
  have hM := hC (jroomOf d' mc' ms') rfl rfl (Nat.le_refl _) (Nat.le_refl _)
  have hr1 := X.2.1.1
  have hr2 := X.2.1.2
  have hlk := va_Nw.use (A := args) rfl (X.1.2.2.2.2.2.2.2.2.1.2.2.2.1 _ hw)
  refine jback X L (va_runSN (As := As.map (jv g)) (rest := st.map (jv g)) (n := n) (host := "LychWeights") ⟨X.1.1, X.1.2.1, X.1.2.2.1, X.1.2.2.2.2.2.1, hts⟩ hM ⟨⟨⟨rfl, rfl, ?_, ?_, jpay hts ⟨m1, m2, m3, m4, m5⟩, List.mem_cons_self⟩, hts _ m1, hts _ m2, m3, ?_, hlk⟩, hts _ hw2, trivial⟩ ⟨C.blind, fun U hU hW => ⟨rfl, ?_, ?_, X.1.2.2.2.2.2.2.2.2.1.warm hW⟩⟩ rfl ?_ L.1 ?_ (jroom hr) hd ⟨?_, ?_⟩) k
  · show d' + 1 ≤ _; omega
  · show 8 + (_ + 11) + 64 * d' ≤ _; omega
  · intro sig hsig
    rw [hsig] at m4
    exact (Option.some.inj m4).symm
  · rw [hU]; exact Nat.le_trans X.1.2.2.2.2.2.2.2.2.2.2.2 X.2.2.2.1
  · rw [hU]; exact X.2.2.1
  · simpa using hn
  · simp
  · omega
  · omega
theorem jcall_IN {y' : MI} {n idx d' mc' ms' mc1 ms1 a : Nat} {As : List Value} {Q' : Option Value → List AC → Prop} {st0 : List Value} (hd : decode y.2.1 pc = .ok (.invokespecial idx, 3)) (hm : jmc y' n) (hret : y'.2.2.2 = none) (hname : y'.1.name = "<init>") (hw : (y.1.cls, idx, y'.1, "LychWeights") ∈ jnest) (hw2 : Cond.instanceMethod y'.1 ∈ lw_good) (hd' : d' < d) (hC : C g d' mc' ms' y' (.ref a :: As) h Q') (hst : st0 = As.reverse ++ .ref a :: st) (hn : As.length = n) (hr : (st.map fun v => v.category).sum ≤ 8)
    (k : ∀ (r : Option Value) (h' : List AC), Q' r h' → J g y d mc1 ms1 Q h' (pc + 3) ls (r.toList ++ st)) : J g y d (mc' + mc1) (ms' + ms1) Q h pc ls st0 := by
  intro p e R s m args below meth c H locs cells slots lsr X L
  subst hst
  obtain ⟨m1, m2, m3, m4, m5⟩ := hm
  have hts := X.1.2.2.2.2.2.2.2.1
  have r1 := X.1.2.2.2.2.2.2.2.2.2.1
  have r2 := X.1.2.2.2.2.2.2.2.2.2.2.1
  have hM := hC (jroomOf d' mc' ms') rfl rfl (Nat.le_refl _) (Nat.le_refl _)
  have hr1 := X.2.1.1
  have hr2 := X.2.1.2
  have hm1 := m1
  rw [hret] at hm1
  have hlk := va_Nw.use (A := args) rfl (X.1.2.2.2.2.2.2.2.2.1.2.2.2.1 _ hw)
  refine jback X L (va_runIN (As := As.map (jv g)) (rest := st.map (jv g)) (n := n) (b := jad g a) (host := "LychWeights") (bytes := y'.2.1) (maxL := y'.2.2.1) ⟨X.1.1, X.1.2.1, X.1.2.2.1, X.1.2.2.2.2.2.1, hts⟩ hM ⟨⟨⟨rfl, rfl, ?_, ?_, jpay hts ⟨m1, m2, m3, m4, m5⟩, by rw [jws, hret]; exact List.mem_cons_self⟩, hts _ hm1, hts _ m2, m3, ?_, hlk⟩, hname, hts _ hw2⟩ ⟨C.blind, fun U hU hW => ⟨rfl, ?_, ?_, X.1.2.2.2.2.2.2.2.2.1.warm hW⟩⟩ rfl ?_ L.1 ?_ (jroom hr) hd ⟨?_, ?_⟩) k
  · show d' + 1 ≤ _; omega
  · show 8 + (_ + 11) + 64 * d' ≤ _; omega
  · intro sig hsig
    rw [hsig] at m4
    exact (Option.some.inj m4).symm
  · rw [hU]; exact Nat.le_trans X.1.2.2.2.2.2.2.2.2.2.2.2 X.2.2.2.1
  · rw [hU]; exact X.2.2.1
  · simpa using hn
  · simp [jv]
  · omega
  · omega
end

theorem nest_in : ∀ w ∈ jnest, Cond.methodLinkNest w.1 w.2.1 w.2.2.1 w.2.2.2 ∈ lw_tbl := by
  unfold jnest
  exact List.forall_mem_cons.mpr ⟨List.mem_of_getElem? (i := 197) (by decide +kernel), List.forall_mem_cons.mpr ⟨List.mem_of_getElem? (i := 246) (by decide +kernel), List.forall_mem_cons.mpr ⟨List.mem_of_getElem? (i := 259) (by decide +kernel), List.forall_mem_cons.mpr ⟨List.mem_of_getElem? (i := 371) (by decide +kernel), List.forall_mem_cons.mpr ⟨List.mem_of_getElem? (i := 397) (by decide +kernel), List.forall_mem_cons.mpr ⟨List.mem_of_getElem? (i := 400) (by decide +kernel), List.forall_mem_cons.mpr ⟨List.mem_of_getElem? (i := 452) (by decide +kernel), fun _ h => nomatch h⟩⟩⟩⟩⟩⟩⟩
theorem ao_in : Cond.arrayOver (.object "LychWeights$Scene") ∈ lw_tbl := List.mem_of_getElem? (i := 258) (by decide +kernel)
theorem kn_of {s : State} {args : Array Value} (hts : ∀ w ∈ lw_good, w.before args s = true) {own : String} {idx ci N : Nat} (h : jnl own idx ci N) : ∃ (cC : ClassId) (iS : Nat → Nat), ∀ q : vw_C, vwCl[ci]? = some q → u_Kn s q.1 q.2.1 q.2.2 cC iS := by
  obtain ⟨_, q, hq, _, _, hi, _⟩ := h
  obtain ⟨cC, iS, k⟩ := u_known hts (jcls_w ci q hq) (hts _ hi)
  refine ⟨cC, iS, fun q2 h2 => ?_⟩
  have e := hq.symm.trans h2
  injection e with e
  subst e
  exact k
/-! THE CLAIM OUT OF ONE WALK OF THE LAW'S BODY. Your part is whole_start (and what it stands on); all else here is the same for every law, but numbers. -/
def R_law : String := "LychWeightsLaw"
def lw_P (b : Addr) (xs : List Int32) (args : Array Value) (s : State) : Prop := args = #[.ref b] ∧ s.IntsAt b xs ∧ xs.length ≤ 2048 ∧ (Jvm.Cond.and given_1 narrow_1).before args s = true
def lw_Q (_ : Array Value) (s : State) (o : Outcome) (t : State) : Prop := o = .returned (some (.int 1)) ∧ Framed s o t [] 610541 7270626
def lw_Z (below : List Frame) (a : Array Value) (s : State) : State → Prop := fun t => ∃ o, t.status = .running ∧ Ended t below o ∧ lw_Q a s o t
/-- the law's own end, with 1 on the stack, nothing written that was there before, its room as the claim has it -/
theorem lw_ret {p : Program} {l : Launch} {e : Env} {s : State} {m : MethodId} {below : List Frame} {meth : Method} {c : Code} {b : Nat} (hx : p.tables.exec = Jvm.exec) (hb : c.code = code) (hr : meth.sig.returnType = ret) (hlocks : meth.locks = false) {pc : Nat} {H : Heap} {ls : Array Slot} (hdg : decode code pc = .ok (.ireturn, 1)) : W p l e room_1 s m #[Value.ref b] below meth c H [] 610541 7270626 (lw_Z below #[Value.ref b] s) (F0 m pc ls [.int 1]) := by
  intro T hT X
  obtain ⟨fs, hret, hrun, hended, hW, hframe⟩ := X.leave (v := some (.int 1)) (hlocks := hlocks) (fun h => by rw [hr] at h; cases h)
  have hmeth' : T.vm.method? m = some meth := X.method'
  refine ⟨T.setFrames fs, ?_, .returned (some (.int 1)), hrun, hended, rfl, ⟨_, rfl⟩, hW, hframe⟩
  jvm_step X.here [X.here.top, hx, hb, hdg, hmeth', hr, ret, narrow_b1]
  (try refine ⟨rfl, ?_⟩); (try refine ⟨rfl, ?_⟩)
  first | (intro acts; rw [hret _ acts rfl rfl rfl]) | rw [hret _ _ rfl rfl rfl]
  exact Steps.refl _
/-- what holds at the law's entry: the machine, the code, the tables' words (any of lw_tbl by 'hts w (by decide +kernel)'), the script of L ints xs at the cell b, what the Statement gives of the start (any of its parts by flat_of_before) -/
def lw_At (p : Program) (s : State) (m : MethodId) (meth : Method) (c : Code) (b L : Nat) (xs : Nat → Int32) : Prop :=
  p.tables.exec = Jvm.exec ∧ c.code = code ∧ meth.sig.returnType = ret ∧ c.maxLocals = 4 ∧ s.vm.findClass R_law = some m.cls ∧ (∀ w ∈ lw_tbl, w.before #[Value.ref b] s = true) ∧ va_X b L xs s s.heap ∧ b < s.heap.size ∧ meth.locks = false ∧ (Jvm.Cond.and given_1 narrow_1).before #[Value.ref b] s = true ∧ meth.name = "law"
/-- YOUR PART: from the entry, for every script of at most 2048 ints, the law comes to its end with true ('hflags': the launch's flags, for a law that throws: no stack traces) -/
theorem whole_start {p : Program} {e : Env} {s : State} {m : MethodId} {below : List Frame} {meth : Method} {c : Code} (l : Launch) (hflags : l.flags = flags0) {b L : Nat} {xs : Nat → Int32} (hL : L ≤ 2048) (C0 : lw_At p s m meth c b L xs) : W p l e room_1 s m #[Value.ref b] below meth c s.heap [] 0 0 (lw_Z below #[Value.ref b] s) (entryFrame m ([Value.ref b] : List Value).toArray 4) := by
  obtain ⟨hx, hb, hr, hml, hown, hts, hX, hbl, hlocks, hgv, hname⟩ := id C0
  have htg : ∀ w ∈ lw_good, w.before #[Value.ref b] s = true := fun w h => hts w (lw_good_sub w h)
  obtain ⟨c0, i0, k0⟩ := kn_of htg nl_X6_48
  obtain ⟨c1, i1, k1⟩ := kn_of htg nl_X6_27
  obtain ⟨c2, i2, k2⟩ := kn_of htg nl_X6_18
  obtain ⟨c3, i3, k3⟩ := kn_of htg nl_X6_7
  obtain ⟨c4, i4, k4⟩ := kn_of htg nl_X6_37
  obtain ⟨c5, i5, k5⟩ := kn_of htg nl_X0_9
  obtain ⟨c6, i6, k6⟩ := kn_of htg nl_L_7
  obtain ⟨c7, i7, k7⟩ := kn_of htg nl_L_10
  obtain ⟨dC, dI, hd4, hKc⟩ : ∃ (dC : Nat → ClassId) (dI : Nat → Nat → Nat), dC 4 = c4 ∧ ∀ (k : Nat) (q : vw_C), vwCl[k]? = some q → u_Kn s q.1 q.2.1 q.2.2 (dC k) (dI k) := by
    refine ⟨fun k => match k with | 0 => c0 | 1 => c1 | 2 => c2 | 3 => c3 | 4 => c4 | 5 => c5 | 6 => c6 | _ => c7, fun k => match k with | 0 => i0 | 1 => i1 | 2 => i2 | 3 => i3 | 4 => i4 | 5 => i5 | 6 => i6 | _ => i7, rfl, ?_⟩
    intro k q hq
    match k, hq with
    | 0, hq => exact k0 q hq
    | 1, hq => exact k1 q hq
    | 2, hq => exact k2 q hq
    | 3, hq => exact k3 q hq
    | 4, hq => exact k4 q hq
    | 5, hq => exact k5 q hq
    | 6, hq => exact k6 q hq
    | 7, hq => exact k7 q hq
    | k + 8, hq => simp [vwCl] at hq
  obtain ⟨scr, s1, s2, s3, s4, s5⟩ := id hX
  obtain ⟨a8, ka8, co8, f8, g8, e8⟩ := Cond.arrayClass_spec (htg _ ac_int)
  obtain ⟨a9, ka9, co9, f9, g9, e9⟩ := Cond.arrayClass_spec (htg _ ac_boolean)
  obtain ⟨co10, a10, ka10, f10, _, g10, e10, h10⟩ := Cond.arrayOver_spec (hts _ ao_in)
  have hco : co10 = dC 4 := by
    have z := (k4 _ rfl).2.1
    rw [hd4]
    have z2 := f10.symm.trans z
    injection z2
  obtain ⟨ka11, g11, co11, e11⟩ := s2.2
  obtain ⟨A, hA8, hA9, hA10, hA11⟩ : ∃ A : Nat → ClassId, A 8 = a8 ∧ A 9 = a9 ∧ A 10 = a10 ∧ A 11 = scr.cls := ⟨fun t => match t with | 8 => a8 | 9 => a9 | 10 => a10 | _ => scr.cls, rfl, rfl, rfl, rfl⟩
  obtain ⟨g, hg⟩ : ∃ g : GG, g = (l, b, s.heap.size, (dC, dI), A) := ⟨_, rfl⟩
  have hK : jK g s := by
    subst hg
    refine ⟨⟨hKc, fun k q h => by simp at h⟩, fun t ty e => ?_, fun t ht ty e => ?_, fun w hw => va_Nw.of rfl (hts _ (nest_in w hw)), va_AO.of (hts _ ao_in)⟩
    · show ∃ (k : Class) (comp : ClassId), s.vm.classes[A t]? = some k ∧ k.kind = .array comp ty ∧ (t = 10 → comp = dC 4)
      match t, e with
      | 8, e => cases e; exact ⟨ka8, co8, by rw [hA8]; exact g8, e8, fun z => absurd z (by decide)⟩
      | 9, e => cases e; exact ⟨ka9, co9, by rw [hA9]; exact g9, e9, fun z => absurd z (by decide)⟩
      | 10, e => cases e; exact ⟨ka10, co10, by rw [hA10]; exact g10, e10, fun _ => hco⟩
      | 11, e => cases e; exact ⟨ka11, co11, by rw [hA11]; exact g11, e11, fun z => absurd z (by decide)⟩
      | 0, e => cases e
      | 1, e => cases e
      | 2, e => cases e
      | 3, e => cases e
      | 4, e => cases e
      | 5, e => cases e
      | 6, e => cases e
      | 7, e => cases e
      | t + 12, e => cases e
    · show s.vm.findClass ("[" ++ ty.toString) = some (A t)
      match t, e with
      | 8, e => cases e; rw [hA8]; exact f8
      | 9, e => cases e; rw [hA9]; exact f9
      | 10, e => cases e; rw [hA10]; exact h10
      | 11, _ => exact absurd ht (by decide)
      | 0, e => cases e
      | 1, e => cases e
      | 2, e => cases e
      | 3, e => cases e
      | 4, e => cases e
      | 5, e => cases e
      | 6, e => cases e
      | 7, e => cases e
      | t + 12, e => cases e
  have hH : jH g s.heap [((11, iv L xs) : AC)] := by
    subst hg
    refine ⟨Nat.le_refl 1, rfl, hbl, fun c h => by cases h; rfl, fun k c h => ?_⟩
    match k, h with
    | 0, h =>
      cases h
      refine ⟨scr, s1, s2.1, s3, Or.inr ⟨show 8 ≤ 11 by decide, hA11.symm, by rw [s4]; exact (iv_len L xs).symm, fun j v hv => ?_⟩⟩
      obtain ⟨hj, rfl⟩ := iv_in hv
      exact s5 j hj
    | k + 1, h => simp at h
  have hl := lv_entry ([Value.ref b]) (n := 4) (Nat.le_of_ble_eq_true rfl)
  rw [lg_entry_eq]
  generalize (lg_sl ([Value.ref b]) ++ List.replicate (4 - (lg_sl ([Value.ref b])).length) Slot.unset).toArray = ls at hl ⊢
  have hl : lv_has ls 4 [(0, .ref b)] := hl
  have LL : jL g 4 ls [some (.ref 0), none, none, none] := by
    refine ⟨hl.1, hl.2.1, rfl, fun i v hi => ?_⟩
    match i, hi with
    | 0, hi =>
      cases hi
      refine ⟨rfl, ?_⟩
      have z := hl.2.2 (0, .ref b) List.mem_cons_self
      subst hg
      exact z
    | 1, hi => cases hi
    | 2, hi => cases hi
    | 3, hi => cases hi
    | i + 4, hi => simp at hi
  have hg1 : g.1 = l := by subst hg; rfl
  have hg2 : g.2.2.1 = s.heap.size := by subst hg; rfl
  have kk := la_start (g := g) hL p e room_1 s m #[Value.ref b] below meth c s.heap [] 0 0 ls ⟨⟨hx, hb, hml, hr, hlocks, hown, hname, htg, hK, Nat.le_of_ble_eq_true rfl, Nat.le_of_ble_eq_true rfl, Nat.le_of_eq hg2⟩, ⟨Nat.le_of_ble_eq_true rfl, Nat.le_of_ble_eq_true rfl⟩, hH, va_S.rf⟩ LL
  rw [hg1] at kk
  intro T hT S
  obtain ⟨t, a, r, h', hq, o, b1, b2, ⟨b3, _, _⟩, L', fe, hfr⟩ := kk T hT S
  have hq : r = some (.int 1) := hq
  subst hq
  have fe2 := (State.sameButNew.drop_fresh (L := []) (J := L') fe.2.2 (fun x hx => by have z : g.2.2.1 ≤ x.base := hfr x hx; omega)).mono (c' := 610541) (n' := 7270626) (Nat.le_of_ble_eq_true rfl) (Nat.le_of_ble_eq_true rfl)
  exact ⟨t, a, o, b1, b2, b3, fe.1, fe.2.1, fe2⟩
set_option maxHeartbeats 4000000 in
theorem lw_walk (l : Launch) (hflags : l.flags = flags0) (b : Addr) (xs : List Int32) : MetFree l x (headSpec (Jvm.Cond.code x code maxLocals ret :: tables_1) room_1) (lw_P b xs) (fun _ _ _ _ _ => True) lw_Q := by
  refine MetFree.of_bodyS (code := code) (maxLocals := maxLocals) (ret := ret) (by decide) ?_ ?_
  · intro args s m h hn
    obtain ⟨meth, c, h1, h2, h3, h4, h5, h6, -, -⟩ := Cond.code_spec hn (atoms_spec (ws := Jvm.Cond.code x code maxLocals ret :: tables_1) h _ List.mem_cons_self)
    exact ⟨meth, c, h1, h2, h3, h4, h5, h6⟩
  · intro p e s m args below meth c s₁ B hml0 hP _
    obtain ⟨rfl, hx, hbd, hgv⟩ := hP
    obtain ⟨scr, harrAt, hlist, hof, hsmall⟩ := hx
    obtain ⟨hcb, hkn, -, -⟩ := State.arrayAt?_spec harrAt
    have hown : s.vm.findClass R_law = some m.cls := findClass_of_methodNamed B.named
    have hts0 : ∀ c ∈ (Jvm.Cond.code x code maxLocals ret :: tables_1), c.before #[Value.ref b] s = true := atoms_spec (ws := Jvm.Cond.code x code maxLocals ret :: tables_1) B.pre
    have hts : ∀ w ∈ lw_tbl, w.before #[Value.ref b] s = true := k2_hts_sels lw_privs (fun w hw => hts0 w (List.mem_cons_of_mem _ hw)) lw_privs_ok
    have hml : c.maxLocals = 4 := B.maxLocals_eq (hts0 _ List.mem_cons_self)
    have X₀ : Stand p l e room_1 s m #[Value.ref b] below meth c s₁ [] 0 0 := Stand.of_body B
    have hh0 : s₁.heap = s.heap := by rw [B.state]; rfl
    have hsz : scr.slots.size = xs.length := by rw [← Array.length_toList, hlist, List.length_map]
    have hval : ∀ j : Nat, j < xs.length → scr.slots[j]? = some (.int (xs.getD j 0)) := fun j hj => by
      rw [← Array.getElem?_toList, hlist]
      simp [hj]
    have hbl : b < s.heap.size := (Array.getElem?_eq_some_iff.mp hcb).1
    have hX : va_X b xs.length (fun j => xs.getD j 0) s s.heap := ⟨scr, hcb, hof, hkn, hsz, hval⟩
    have K : W p l e room_1 s m #[Value.ref b] below meth c s₁.heap [] 0 0 (lw_Z below #[Value.ref b] s) (entryFrame m ([Value.ref b] : List Value).toArray 4) := by
      rw [hh0]
      exact whole_start l hflags hbd ⟨B.exec, B.bytes, B.returns, hml, hown, hts, hX, hbl, B.notSynchronized, hgv, (name_of_methodNamed B.named B.method).1⟩
    obtain ⟨t, a1, o, b1, b2, b3⟩ := K s₁ rfl X₀
    exact ⟨t, o, a1, b1, b2, b3⟩
theorem lw_pre_spec {args : Array Value} {s : State} (h : (Jvm.Cond.and given_1 narrow_1).before args s = true) (hr : rest_1_c.before args s = true) : ∃ (b : Addr) (xs : List Int32), lw_P b xs args s := by
  have hs := flat_of_before _ h
  have hq := flat_of_before _ hr
  have hc : (Cond.count 1).before args s = true := hs _ (by decide +kernel)
  have harr : (Cond.arrayOf (.arg 0) .int).before args s = true := hs _ (by decide +kernel)
  have hle : (Cond.le (.length (.arg 0)) (.int 2048)).before args s = true := hs _ (by decide +kernel)
  have hlen : (Cond.isInt (.length (.arg 0))).before args s = true := hq _ (by decide +kernel)
  have hall : (Cond.all (.arg 0) (.isInt (.elem (.arg 0) (.index 0)))).before args s = true := hq _ (by decide +kernel)
  obtain ⟨b, xs, hb, hx⟩ := State.ints_of_pre rfl harr hlen hall
  have hsm : xs.length < 2 ^ 31 := hx.choose_spec.2.2.2
  have hev : (Term.length (.arg 0)).eval args s none [] s = some (.int xs.length.toInt32) := hx.length_eval hb
  have hv := Cond.le_ints hev (show (Term.int 2048).eval args s none [] s = some (.int 2048) from rfl)
  have hd : xs.length.toInt32 ≤ 2048 := by
    simpa [Cond.before, Cond.holds, hv] using hle
  have hN : xs.length ≤ 2048 := (Int32.ofNat_le_ofNat hsm (by decide)).mp (show Int32.ofNat xs.length ≤ Int32.ofNat 2048 from hd)
  exact ⟨b, xs, Cond.one_arg hc (show args[0]? = some (.ref b) from hb), hx, hN, h⟩
theorem lw_comes (l : Launch) (hflags : l.flags = flags0) : Comes l x (Jvm.Cond.code x code maxLocals ret :: tables_1) room_1 (fun tb e args s => Calls_1 tb e args s ∧ rest_1 tb e args s ∧ Pre_1 tb e args s)
    (fun _ _ args s o t => lw_Q args s o t) := by
  intro p e ha hc hk s m args below hf hfit hheap happ hpre
  obtain ⟨b, xs, hP⟩ := lw_pre_spec hpre.2.2 hpre.2.1
  obtain ⟨k, o, h1, h2, h3, hQ⟩ := lw_walk l hflags b xs p e ha hc hk s m args below hf ((Spec.applies_iff_loose hf).mp happ).1 hP trivial
  exact ⟨k, o, h1, h2, h3, hQ⟩
theorem lw_frame {s t : State} {o : Outcome} {args : Array Value} (h : Framed s o t [] 610541 7270626) :
    Framed s o t (fieldLocs frame_1_writes args s ++ arrayLocs frame_1_arrays args s ++ staticLocs frame_1_statics s) 610541 7270626 := h
theorem lw_limb (L : Cond) (hL : ∀ (args : Array Value) (s t : State), L.after args s (.returned (some (.int 1))) t = true) :
    ArmFor flags0 classFile x code maxLocals ret World_1 tables_1 room_1 Calls_1 rest_1 Pre_1
      (fun tb e a s o t => postC L tb e a s o t ∧ Framed s o t (fieldLocs frame_1_writes a s ++ arrayLocs frame_1_arrays a s ++ staticLocs frame_1_statics s) 610541 7270626) := by
  intro l hflags _ _ p e ha hc hk s m args below hf hfit hheap happ hpre
  obtain ⟨k, o, h1, h2, h3, rfl, hF⟩ := lw_comes l hflags p e ha hc hk s m args below hf hfit hheap happ hpre
  exact ⟨k, _, h1, h2, h3, hL args s _, lw_frame hF⟩
theorem i_vc : Claimed_1_1 ∧ Claimed_1_2 := ⟨lw_limb limb_1_1 (fun args s t => by simp [limb_1_1, Cond.after, Cond.holds, Cond.value]), lw_limb limb_1_2 (fun args s t => Cond.after_iff.mpr (by
  first | (rw [show limb_1_2 = Cond.eq .result (.int 1) from rfl, Cond.eq_ints (x := 1) (y := 1) rfl rfl]; simp; done) | (simp [limb_1_2, Cond.value, Term.eval]; done)))⟩

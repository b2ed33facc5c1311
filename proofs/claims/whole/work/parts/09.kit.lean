/-! constants, contracts with one outcome, calls by number of arguments (written by wip/whole/gen09.py) -/
theorem kc_m1 : Int32.ofInt (-1) = (-1) := by decide
theorem kc_0 : Int32.ofInt (0) = (0) := by decide
theorem kc_1 : Int32.ofInt (1) = (1) := by decide
theorem kc_2 : Int32.ofInt (2) = (2) := by decide
theorem kc_3 : Int32.ofInt (3) = (3) := by decide
theorem kc_4 : Int32.ofInt (4) = (4) := by decide
theorem kc_5 : Int32.ofInt (5) = (5) := by decide
theorem kb_m99 : (Int8.ofInt (-99)).toInt32 = (-99) := by decide
theorem kb_m10 : (Int8.ofInt (-10)).toInt32 = (-10) := by decide
theorem kb_m9 : (Int8.ofInt (-9)).toInt32 = (-9) := by decide
theorem kb_m3 : (Int8.ofInt (-3)).toInt32 = (-3) := by decide
theorem kb_m2 : (Int8.ofInt (-2)).toInt32 = (-2) := by decide
theorem kb_6 : (Int8.ofInt (6)).toInt32 = (6) := by decide
theorem kb_7 : (Int8.ofInt (7)).toInt32 = (7) := by decide
theorem kb_8 : (Int8.ofInt (8)).toInt32 = (8) := by decide
theorem kb_9 : (Int8.ofInt (9)).toInt32 = (9) := by decide
theorem kb_10 : (Int8.ofInt (10)).toInt32 = (10) := by decide
theorem kb_12 : (Int8.ofInt (12)).toInt32 = (12) := by decide
theorem kb_15 : (Int8.ofInt (15)).toInt32 = (15) := by decide
theorem kb_16 : (Int8.ofInt (16)).toInt32 = (16) := by decide
theorem kb_20 : (Int8.ofInt (20)).toInt32 = (20) := by decide
theorem kb_21 : (Int8.ofInt (21)).toInt32 = (21) := by decide
theorem kb_31 : (Int8.ofInt (31)).toInt32 = (31) := by decide
theorem kb_32 : (Int8.ofInt (32)).toInt32 = (32) := by decide
theorem kb_40 : (Int8.ofInt (40)).toInt32 = (40) := by decide
theorem kb_42 : (Int8.ofInt (42)).toInt32 = (42) := by decide
theorem kb_48 : (Int8.ofInt (48)).toInt32 = (48) := by decide
theorem kb_57 : (Int8.ofInt (57)).toInt32 = (57) := by decide
theorem kb_59 : (Int8.ofInt (59)).toInt32 = (59) := by decide
theorem kb_60 : (Int8.ofInt (60)).toInt32 = (60) := by decide
theorem kb_63 : (Int8.ofInt (63)).toInt32 = (63) := by decide
theorem kb_64 : (Int8.ofInt (64)).toInt32 = (64) := by decide
theorem kb_80 : (Int8.ofInt (80)).toInt32 = (80) := by decide
theorem kb_98 : (Int8.ofInt (98)).toInt32 = (98) := by decide
theorem kb_99 : (Int8.ofInt (99)).toInt32 = (99) := by decide
theorem kb_100 : (Int8.ofInt (100)).toInt32 = (100) := by decide
theorem kb_108 : (Int8.ofInt (108)).toInt32 = (108) := by decide
theorem kb_112 : (Int8.ofInt (112)).toInt32 = (112) := by decide
theorem kb_114 : (Int8.ofInt (114)).toInt32 = (114) := by decide
theorem ks_150 : (Int16.ofInt (150)).toInt32 = (150) := by decide
theorem ks_189 : (Int16.ofInt (189)).toInt32 = (189) := by decide
theorem ks_210 : (Int16.ofInt (210)).toInt32 = (210) := by decide
theorem ks_240 : (Int16.ofInt (240)).toInt32 = (240) := by decide
theorem ks_255 : (Int16.ofInt (255)).toInt32 = (255) := by decide
abbrev Fn : Type := Nat → Int32
def CD (g : GG) (d : Nat) (y : MI) (av : List Value) (h : List AC) (r : Option Value) (h2 : List AC) : Prop := C g d 0 0 y av h (fun r' h' => r' = r ∧ h' = h2)
section
variable {g : GG} {y y' : MI} {d d' mc ms n idx : Nat} {Q Q' : Option Value → List AC → Prop} {h h2 : List AC} {pc : Nat} {ls : List (Option Value)} {st : List Value} {v v1 v2 v3 v4 v5 v6 : Value}
theorem CD.deeper {d2 : Nat} {av : List Value} {r : Option Value} (hd : d ≤ d2) (k : CD g d y av h r h2) : CD g d2 y av h r h2 := C.deeper hd k
theorem j_zret {b : Bool} (hd : decode y.2.1 pc = .ok (.ireturn, 1)) (hr : y.2.2.2 = some .boolean) {w : Int32} (hv : w = b2i b) (hq : Q (some (.int (b2i b))) h) : J g y d mc ms Q h pc ls [.int w] := by
  subst hv
  exact j_zreturn (x := b) hd hr (by cases b <;> rfl) hq
theorem j_bne {b : Bool} {off : Int} {tgt : Nat} (hd : decode y.2.1 pc = .ok (.ifCond .ne off, 3)) (ht : (pc : Int) + off = (tgt : Int)) (kt : b = true → J g y d mc ms Q h tgt ls st) (kf : b = false → J g y d mc ms Q h (pc + 3) ls st) : J g y d mc ms Q h pc ls (.int (b2i b) :: st) := by
  cases b
  · exact j_if_ne hd ht (fun q => absurd rfl q) (fun _ => kf rfl)
  · exact j_if_ne hd ht (fun _ => kt rfl) (fun q => absurd (show (1 : Int32) = 0 from q) (by decide))
theorem j_beq {b : Bool} {off : Int} {tgt : Nat} (hd : decode y.2.1 pc = .ok (.ifCond .eq off, 3)) (ht : (pc : Int) + off = (tgt : Int)) (kt : b = false → J g y d mc ms Q h tgt ls st) (kf : b = true → J g y d mc ms Q h (pc + 3) ls st) : J g y d mc ms Q h pc ls (.int (b2i b) :: st) := by
  cases b
  · exact j_if_eq hd ht (fun _ => kt rfl) (fun q => absurd rfl q)
  · exact j_if_eq hd ht (fun q => absurd q (by decide)) (fun _ => kf rfl)
theorem mco_max : Cond.code Lib.Math.max.name Lib.Math.max.code 2 (some .int) ∈ lw_good := jg 91 (by decide +kernel) (by decide +kernel)
theorem mst_max : Cond.static Lib.Math.max.name ∈ lw_good := sm_J9_max_7cf53
theorem mco_min : Cond.code Lib.Math.min.name Lib.Math.min.code 2 (some .int) ∈ lw_good := jg 475 (by decide +kernel) (by decide +kernel)
theorem mst_min : Cond.static Lib.Math.min.name ∈ lw_good := sm_J9_min_7cf53
theorem mco_abs : Cond.code Lib.Math.abs.name Lib.Math.abs.code 1 (some .int) ∈ lw_good := jg 578 (by decide +kernel) (by decide +kernel)
theorem mst_abs : Cond.static Lib.Math.abs.name ∈ lw_good := sm_J9_abs_0f7a4
theorem min_Math : Cond.initialized "java/lang/Math" ∈ lw_good := jg 67 (by decide +kernel) (by decide +kernel)
def imax (a b : Int32) : Int32 := if a < b then b else a
def imin (a b : Int32) : Int32 := if b < a then b else a
def iabs (a : Int32) : Int32 := if 0 ≤ a then a else 0 - a
theorem j_max {a b : Int32} (hd : decode y.2.1 pc = .ok (.invokestatic idx, 3)) (hw : Cond.methodLink y.1.cls idx Lib.Math.max.name ∈ lw_good) (hd1 : 1 ≤ d) (hr : (st.map fun v => v.category).sum ≤ 8) (k : J g y d mc ms Q h (pc + 3) ls (.int (imax a b) :: st)) : J g y d mc ms Q h pc ls (.int b :: .int a :: st) := by
  intro p e R s m args below meth c H locs cells slots lsr X L
  have hts := X.1.2.2.2.2.2.2.2.1
  have r1 := X.1.2.2.2.2.2.2.2.2.2.1
  have r2 := X.1.2.2.2.2.2.2.2.2.2.2.1
  have hr1 := X.2.1.1
  have hr2 := X.2.1.2
  refine va_mmax X.1.1 X.1.2.1 (X.1.2.2.1.trans L.1.symm) X.1.2.2.2.2.2.1 (hts _ hw) (hts _ mst_max) (hts _ min_Math) (hts _ mco_max) (by omega) ?_ (by omega) (by omega) hd (k p e R s m args below meth c H locs cells slots lsr X L)
  rw [jv_cats]
  omega
theorem j_min {a b : Int32} (hd : decode y.2.1 pc = .ok (.invokestatic idx, 3)) (hw : Cond.methodLink y.1.cls idx Lib.Math.min.name ∈ lw_good) (hd1 : 1 ≤ d) (hr : (st.map fun v => v.category).sum ≤ 8) (k : J g y d mc ms Q h (pc + 3) ls (.int (imin a b) :: st)) : J g y d mc ms Q h pc ls (.int b :: .int a :: st) := by
  intro p e R s m args below meth c H locs cells slots lsr X L
  have hts := X.1.2.2.2.2.2.2.2.1
  have r1 := X.1.2.2.2.2.2.2.2.2.2.1
  have r2 := X.1.2.2.2.2.2.2.2.2.2.2.1
  have hr1 := X.2.1.1
  have hr2 := X.2.1.2
  refine va_mmin X.1.1 X.1.2.1 (X.1.2.2.1.trans L.1.symm) X.1.2.2.2.2.2.1 (hts _ hw) (hts _ mst_min) (hts _ min_Math) (hts _ mco_min) (by omega) ?_ (by omega) (by omega) hd (k p e R s m args below meth c H locs cells slots lsr X L)
  rw [jv_cats]
  omega
theorem j_abs {a : Int32} (hd : decode y.2.1 pc = .ok (.invokestatic idx, 3)) (hw : Cond.methodLink y.1.cls idx Lib.Math.abs.name ∈ lw_good) (hd1 : 1 ≤ d) (hr : (st.map fun v => v.category).sum ≤ 8) (k : J g y d mc ms Q h (pc + 3) ls (.int (iabs a) :: st)) : J g y d mc ms Q h pc ls (.int a :: st) := by
  intro p e R s m args below meth c H locs cells slots lsr X L
  have hts := X.1.2.2.2.2.2.2.2.1
  have r1 := X.1.2.2.2.2.2.2.2.2.2.1
  have r2 := X.1.2.2.2.2.2.2.2.2.2.2.1
  have hr1 := X.2.1.1
  have hr2 := X.2.1.2
  refine va_mabs X.1.1 X.1.2.1 (X.1.2.2.1.trans L.1.symm) X.1.2.2.2.2.2.1 (hts _ hw) (hts _ mst_abs) (hts _ min_Math) (hts _ mco_abs) (by omega) ?_ (by omega) (by omega) hd (k p e R s m args below meth c H locs cells slots lsr X L)
  rw [jv_cats]
  omega
theorem j_s0 (hd : decode y.2.1 pc = .ok (.invokestatic idx, 3)) (hm : jmc y' 0) (hw : Cond.methodLink y.1.cls idx y'.1 ∈ lw_good) (hw2 : Cond.static y'.1 ∈ lw_good) (hd' : d' < d) (hC : CD g d' y' [] h (some v) h2) (hr : (st.map fun v => v.category).sum ≤ 8) (k : J g y d mc ms Q h2 (pc + 3) ls (v :: st)) : J g y d mc ms Q h pc ls (st) := by
  have z := jcall_S (mc1 := mc) (ms1 := ms) (As := []) (st := st) hd hm hw hw2 hd' hC rfl rfl hr (fun r h' q => by rw [q.1, q.2]; exact k)
  rw [Nat.zero_add, Nat.zero_add] at z
  exact z
theorem j_s0n (hd : decode y.2.1 pc = .ok (.invokestatic idx, 3)) (hm : jmc y' 0) (hw : Cond.methodLink y.1.cls idx y'.1 ∈ lw_good) (hw2 : Cond.static y'.1 ∈ lw_good) (hd' : d' < d) (hC : CD g d' y' [] h none h2) (hr : (st.map fun v => v.category).sum ≤ 8) (k : J g y d mc ms Q h2 (pc + 3) ls st) : J g y d mc ms Q h pc ls (st) := by
  have z := jcall_S (mc1 := mc) (ms1 := ms) (As := []) (st := st) hd hm hw hw2 hd' hC rfl rfl hr (fun r h' q => by rw [q.1, q.2]; exact k)
  rw [Nat.zero_add, Nat.zero_add] at z
  exact z
theorem j_s0g (hd : decode y.2.1 pc = .ok (.invokestatic idx, 3)) (hm : jmc y' 0) (hw : Cond.methodLink y.1.cls idx y'.1 ∈ lw_good) (hw2 : Cond.static y'.1 ∈ lw_good) (hd' : d' < d) (hC : C g d' 0 0 y' [] h Q') (hr : (st.map fun v => v.category).sum ≤ 8) (k : ∀ (r : Option Value) (h' : List AC), Q' r h' → J g y d mc ms Q h' (pc + 3) ls (r.toList ++ st)) : J g y d mc ms Q h pc ls (st) := by
  have z := jcall_S (mc1 := mc) (ms1 := ms) (As := []) (st := st) hd hm hw hw2 hd' hC rfl rfl hr (k)
  rw [Nat.zero_add, Nat.zero_add] at z
  exact z
theorem j_v0 {a ci : Nat} {fs : List Value} {q : vw_C} (hd : decode y.2.1 pc = .ok (.invokevirtual idx, 3)) (hm : jmc y' 0) (hw : Cond.methodLink y.1.cls idx y'.1 ∈ lw_good) (hw2 : Cond.instanceMethod y'.1 ∈ lw_good) (hw3 : Cond.selects y'.1.cls y'.1 y'.1 ∈ lw_good) (hq : vwCl[ci]? = some q) (hcls : y'.1.cls = q.1) (ha : h[a]? = some (ci, fs)) (hd' : d' < d) (hC : CD g d' y' (.ref a :: []) h (some v) h2) (hr : (st.map fun v => v.category).sum ≤ 8) (k : J g y d mc ms Q h2 (pc + 3) ls (v :: st)) : J g y d mc ms Q h pc ls (.ref a :: st) := by
  have z := jcall_V (mc1 := mc) (ms1 := ms) (As := []) (st := st) hd hm hw hw2 hw3 hq hcls ha hd' hC rfl rfl hr (fun r h' q => by rw [q.1, q.2]; exact k)
  rw [Nat.zero_add, Nat.zero_add] at z
  exact z
theorem j_v0n {a ci : Nat} {fs : List Value} {q : vw_C} (hd : decode y.2.1 pc = .ok (.invokevirtual idx, 3)) (hm : jmc y' 0) (hw : Cond.methodLink y.1.cls idx y'.1 ∈ lw_good) (hw2 : Cond.instanceMethod y'.1 ∈ lw_good) (hw3 : Cond.selects y'.1.cls y'.1 y'.1 ∈ lw_good) (hq : vwCl[ci]? = some q) (hcls : y'.1.cls = q.1) (ha : h[a]? = some (ci, fs)) (hd' : d' < d) (hC : CD g d' y' (.ref a :: []) h none h2) (hr : (st.map fun v => v.category).sum ≤ 8) (k : J g y d mc ms Q h2 (pc + 3) ls st) : J g y d mc ms Q h pc ls (.ref a :: st) := by
  have z := jcall_V (mc1 := mc) (ms1 := ms) (As := []) (st := st) hd hm hw hw2 hw3 hq hcls ha hd' hC rfl rfl hr (fun r h' q => by rw [q.1, q.2]; exact k)
  rw [Nat.zero_add, Nat.zero_add] at z
  exact z
theorem j_v0g {a ci : Nat} {fs : List Value} {q : vw_C} (hd : decode y.2.1 pc = .ok (.invokevirtual idx, 3)) (hm : jmc y' 0) (hw : Cond.methodLink y.1.cls idx y'.1 ∈ lw_good) (hw2 : Cond.instanceMethod y'.1 ∈ lw_good) (hw3 : Cond.selects y'.1.cls y'.1 y'.1 ∈ lw_good) (hq : vwCl[ci]? = some q) (hcls : y'.1.cls = q.1) (ha : h[a]? = some (ci, fs)) (hd' : d' < d) (hC : C g d' 0 0 y' (.ref a :: []) h Q') (hr : (st.map fun v => v.category).sum ≤ 8) (k : ∀ (r : Option Value) (h' : List AC), Q' r h' → J g y d mc ms Q h' (pc + 3) ls (r.toList ++ st)) : J g y d mc ms Q h pc ls (.ref a :: st) := by
  have z := jcall_V (mc1 := mc) (ms1 := ms) (As := []) (st := st) hd hm hw hw2 hw3 hq hcls ha hd' hC rfl rfl hr (k)
  rw [Nat.zero_add, Nat.zero_add] at z
  exact z
theorem j_ns0 (hd : decode y.2.1 pc = .ok (.invokestatic idx, 3)) (hm : jmc y' 0) (hw : (y.1.cls, idx, y'.1, "LychWeights") ∈ jnest) (hw2 : Cond.static y'.1 ∈ lw_good) (hd' : d' < d) (hC : CD g d' y' [] h (some v) h2) (hr : (st.map fun v => v.category).sum ≤ 8) (k : J g y d mc ms Q h2 (pc + 3) ls (v :: st)) : J g y d mc ms Q h pc ls (st) := by
  have z := jcall_SN (mc1 := mc) (ms1 := ms) (As := []) (st := st) hd hm hw hw2 hd' hC rfl rfl hr (fun r h' q => by rw [q.1, q.2]; exact k)
  rw [Nat.zero_add, Nat.zero_add] at z
  exact z
theorem j_ns0n (hd : decode y.2.1 pc = .ok (.invokestatic idx, 3)) (hm : jmc y' 0) (hw : (y.1.cls, idx, y'.1, "LychWeights") ∈ jnest) (hw2 : Cond.static y'.1 ∈ lw_good) (hd' : d' < d) (hC : CD g d' y' [] h none h2) (hr : (st.map fun v => v.category).sum ≤ 8) (k : J g y d mc ms Q h2 (pc + 3) ls st) : J g y d mc ms Q h pc ls (st) := by
  have z := jcall_SN (mc1 := mc) (ms1 := ms) (As := []) (st := st) hd hm hw hw2 hd' hC rfl rfl hr (fun r h' q => by rw [q.1, q.2]; exact k)
  rw [Nat.zero_add, Nat.zero_add] at z
  exact z
theorem j_ns0g (hd : decode y.2.1 pc = .ok (.invokestatic idx, 3)) (hm : jmc y' 0) (hw : (y.1.cls, idx, y'.1, "LychWeights") ∈ jnest) (hw2 : Cond.static y'.1 ∈ lw_good) (hd' : d' < d) (hC : C g d' 0 0 y' [] h Q') (hr : (st.map fun v => v.category).sum ≤ 8) (k : ∀ (r : Option Value) (h' : List AC), Q' r h' → J g y d mc ms Q h' (pc + 3) ls (r.toList ++ st)) : J g y d mc ms Q h pc ls (st) := by
  have z := jcall_SN (mc1 := mc) (ms1 := ms) (As := []) (st := st) hd hm hw hw2 hd' hC rfl rfl hr (k)
  rw [Nat.zero_add, Nat.zero_add] at z
  exact z
theorem j_s1 (hd : decode y.2.1 pc = .ok (.invokestatic idx, 3)) (hm : jmc y' 1) (hw : Cond.methodLink y.1.cls idx y'.1 ∈ lw_good) (hw2 : Cond.static y'.1 ∈ lw_good) (hd' : d' < d) (hC : CD g d' y' [v1] h (some v) h2) (hr : (st.map fun v => v.category).sum ≤ 8) (k : J g y d mc ms Q h2 (pc + 3) ls (v :: st)) : J g y d mc ms Q h pc ls (v1 :: st) := by
  have z := jcall_S (mc1 := mc) (ms1 := ms) (As := [v1]) (st := st) hd hm hw hw2 hd' hC rfl rfl hr (fun r h' q => by rw [q.1, q.2]; exact k)
  rw [Nat.zero_add, Nat.zero_add] at z
  exact z
theorem j_s1n (hd : decode y.2.1 pc = .ok (.invokestatic idx, 3)) (hm : jmc y' 1) (hw : Cond.methodLink y.1.cls idx y'.1 ∈ lw_good) (hw2 : Cond.static y'.1 ∈ lw_good) (hd' : d' < d) (hC : CD g d' y' [v1] h none h2) (hr : (st.map fun v => v.category).sum ≤ 8) (k : J g y d mc ms Q h2 (pc + 3) ls st) : J g y d mc ms Q h pc ls (v1 :: st) := by
  have z := jcall_S (mc1 := mc) (ms1 := ms) (As := [v1]) (st := st) hd hm hw hw2 hd' hC rfl rfl hr (fun r h' q => by rw [q.1, q.2]; exact k)
  rw [Nat.zero_add, Nat.zero_add] at z
  exact z
theorem j_s1g (hd : decode y.2.1 pc = .ok (.invokestatic idx, 3)) (hm : jmc y' 1) (hw : Cond.methodLink y.1.cls idx y'.1 ∈ lw_good) (hw2 : Cond.static y'.1 ∈ lw_good) (hd' : d' < d) (hC : C g d' 0 0 y' [v1] h Q') (hr : (st.map fun v => v.category).sum ≤ 8) (k : ∀ (r : Option Value) (h' : List AC), Q' r h' → J g y d mc ms Q h' (pc + 3) ls (r.toList ++ st)) : J g y d mc ms Q h pc ls (v1 :: st) := by
  have z := jcall_S (mc1 := mc) (ms1 := ms) (As := [v1]) (st := st) hd hm hw hw2 hd' hC rfl rfl hr (k)
  rw [Nat.zero_add, Nat.zero_add] at z
  exact z
theorem j_v1 {a ci : Nat} {fs : List Value} {q : vw_C} (hd : decode y.2.1 pc = .ok (.invokevirtual idx, 3)) (hm : jmc y' 1) (hw : Cond.methodLink y.1.cls idx y'.1 ∈ lw_good) (hw2 : Cond.instanceMethod y'.1 ∈ lw_good) (hw3 : Cond.selects y'.1.cls y'.1 y'.1 ∈ lw_good) (hq : vwCl[ci]? = some q) (hcls : y'.1.cls = q.1) (ha : h[a]? = some (ci, fs)) (hd' : d' < d) (hC : CD g d' y' (.ref a :: [v1]) h (some v) h2) (hr : (st.map fun v => v.category).sum ≤ 8) (k : J g y d mc ms Q h2 (pc + 3) ls (v :: st)) : J g y d mc ms Q h pc ls (v1 :: .ref a :: st) := by
  have z := jcall_V (mc1 := mc) (ms1 := ms) (As := [v1]) (st := st) hd hm hw hw2 hw3 hq hcls ha hd' hC rfl rfl hr (fun r h' q => by rw [q.1, q.2]; exact k)
  rw [Nat.zero_add, Nat.zero_add] at z
  exact z
theorem j_v1n {a ci : Nat} {fs : List Value} {q : vw_C} (hd : decode y.2.1 pc = .ok (.invokevirtual idx, 3)) (hm : jmc y' 1) (hw : Cond.methodLink y.1.cls idx y'.1 ∈ lw_good) (hw2 : Cond.instanceMethod y'.1 ∈ lw_good) (hw3 : Cond.selects y'.1.cls y'.1 y'.1 ∈ lw_good) (hq : vwCl[ci]? = some q) (hcls : y'.1.cls = q.1) (ha : h[a]? = some (ci, fs)) (hd' : d' < d) (hC : CD g d' y' (.ref a :: [v1]) h none h2) (hr : (st.map fun v => v.category).sum ≤ 8) (k : J g y d mc ms Q h2 (pc + 3) ls st) : J g y d mc ms Q h pc ls (v1 :: .ref a :: st) := by
  have z := jcall_V (mc1 := mc) (ms1 := ms) (As := [v1]) (st := st) hd hm hw hw2 hw3 hq hcls ha hd' hC rfl rfl hr (fun r h' q => by rw [q.1, q.2]; exact k)
  rw [Nat.zero_add, Nat.zero_add] at z
  exact z
theorem j_v1g {a ci : Nat} {fs : List Value} {q : vw_C} (hd : decode y.2.1 pc = .ok (.invokevirtual idx, 3)) (hm : jmc y' 1) (hw : Cond.methodLink y.1.cls idx y'.1 ∈ lw_good) (hw2 : Cond.instanceMethod y'.1 ∈ lw_good) (hw3 : Cond.selects y'.1.cls y'.1 y'.1 ∈ lw_good) (hq : vwCl[ci]? = some q) (hcls : y'.1.cls = q.1) (ha : h[a]? = some (ci, fs)) (hd' : d' < d) (hC : C g d' 0 0 y' (.ref a :: [v1]) h Q') (hr : (st.map fun v => v.category).sum ≤ 8) (k : ∀ (r : Option Value) (h' : List AC), Q' r h' → J g y d mc ms Q h' (pc + 3) ls (r.toList ++ st)) : J g y d mc ms Q h pc ls (v1 :: .ref a :: st) := by
  have z := jcall_V (mc1 := mc) (ms1 := ms) (As := [v1]) (st := st) hd hm hw hw2 hw3 hq hcls ha hd' hC rfl rfl hr (k)
  rw [Nat.zero_add, Nat.zero_add] at z
  exact z
theorem j_ns1 (hd : decode y.2.1 pc = .ok (.invokestatic idx, 3)) (hm : jmc y' 1) (hw : (y.1.cls, idx, y'.1, "LychWeights") ∈ jnest) (hw2 : Cond.static y'.1 ∈ lw_good) (hd' : d' < d) (hC : CD g d' y' [v1] h (some v) h2) (hr : (st.map fun v => v.category).sum ≤ 8) (k : J g y d mc ms Q h2 (pc + 3) ls (v :: st)) : J g y d mc ms Q h pc ls (v1 :: st) := by
  have z := jcall_SN (mc1 := mc) (ms1 := ms) (As := [v1]) (st := st) hd hm hw hw2 hd' hC rfl rfl hr (fun r h' q => by rw [q.1, q.2]; exact k)
  rw [Nat.zero_add, Nat.zero_add] at z
  exact z
theorem j_ns1n (hd : decode y.2.1 pc = .ok (.invokestatic idx, 3)) (hm : jmc y' 1) (hw : (y.1.cls, idx, y'.1, "LychWeights") ∈ jnest) (hw2 : Cond.static y'.1 ∈ lw_good) (hd' : d' < d) (hC : CD g d' y' [v1] h none h2) (hr : (st.map fun v => v.category).sum ≤ 8) (k : J g y d mc ms Q h2 (pc + 3) ls st) : J g y d mc ms Q h pc ls (v1 :: st) := by
  have z := jcall_SN (mc1 := mc) (ms1 := ms) (As := [v1]) (st := st) hd hm hw hw2 hd' hC rfl rfl hr (fun r h' q => by rw [q.1, q.2]; exact k)
  rw [Nat.zero_add, Nat.zero_add] at z
  exact z
theorem j_ns1g (hd : decode y.2.1 pc = .ok (.invokestatic idx, 3)) (hm : jmc y' 1) (hw : (y.1.cls, idx, y'.1, "LychWeights") ∈ jnest) (hw2 : Cond.static y'.1 ∈ lw_good) (hd' : d' < d) (hC : C g d' 0 0 y' [v1] h Q') (hr : (st.map fun v => v.category).sum ≤ 8) (k : ∀ (r : Option Value) (h' : List AC), Q' r h' → J g y d mc ms Q h' (pc + 3) ls (r.toList ++ st)) : J g y d mc ms Q h pc ls (v1 :: st) := by
  have z := jcall_SN (mc1 := mc) (ms1 := ms) (As := [v1]) (st := st) hd hm hw hw2 hd' hC rfl rfl hr (k)
  rw [Nat.zero_add, Nat.zero_add] at z
  exact z
theorem j_s2 (hd : decode y.2.1 pc = .ok (.invokestatic idx, 3)) (hm : jmc y' 2) (hw : Cond.methodLink y.1.cls idx y'.1 ∈ lw_good) (hw2 : Cond.static y'.1 ∈ lw_good) (hd' : d' < d) (hC : CD g d' y' [v1, v2] h (some v) h2) (hr : (st.map fun v => v.category).sum ≤ 8) (k : J g y d mc ms Q h2 (pc + 3) ls (v :: st)) : J g y d mc ms Q h pc ls (v2 :: v1 :: st) := by
  have z := jcall_S (mc1 := mc) (ms1 := ms) (As := [v1, v2]) (st := st) hd hm hw hw2 hd' hC rfl rfl hr (fun r h' q => by rw [q.1, q.2]; exact k)
  rw [Nat.zero_add, Nat.zero_add] at z
  exact z
theorem j_s2n (hd : decode y.2.1 pc = .ok (.invokestatic idx, 3)) (hm : jmc y' 2) (hw : Cond.methodLink y.1.cls idx y'.1 ∈ lw_good) (hw2 : Cond.static y'.1 ∈ lw_good) (hd' : d' < d) (hC : CD g d' y' [v1, v2] h none h2) (hr : (st.map fun v => v.category).sum ≤ 8) (k : J g y d mc ms Q h2 (pc + 3) ls st) : J g y d mc ms Q h pc ls (v2 :: v1 :: st) := by
  have z := jcall_S (mc1 := mc) (ms1 := ms) (As := [v1, v2]) (st := st) hd hm hw hw2 hd' hC rfl rfl hr (fun r h' q => by rw [q.1, q.2]; exact k)
  rw [Nat.zero_add, Nat.zero_add] at z
  exact z
theorem j_s2g (hd : decode y.2.1 pc = .ok (.invokestatic idx, 3)) (hm : jmc y' 2) (hw : Cond.methodLink y.1.cls idx y'.1 ∈ lw_good) (hw2 : Cond.static y'.1 ∈ lw_good) (hd' : d' < d) (hC : C g d' 0 0 y' [v1, v2] h Q') (hr : (st.map fun v => v.category).sum ≤ 8) (k : ∀ (r : Option Value) (h' : List AC), Q' r h' → J g y d mc ms Q h' (pc + 3) ls (r.toList ++ st)) : J g y d mc ms Q h pc ls (v2 :: v1 :: st) := by
  have z := jcall_S (mc1 := mc) (ms1 := ms) (As := [v1, v2]) (st := st) hd hm hw hw2 hd' hC rfl rfl hr (k)
  rw [Nat.zero_add, Nat.zero_add] at z
  exact z
theorem j_v2 {a ci : Nat} {fs : List Value} {q : vw_C} (hd : decode y.2.1 pc = .ok (.invokevirtual idx, 3)) (hm : jmc y' 2) (hw : Cond.methodLink y.1.cls idx y'.1 ∈ lw_good) (hw2 : Cond.instanceMethod y'.1 ∈ lw_good) (hw3 : Cond.selects y'.1.cls y'.1 y'.1 ∈ lw_good) (hq : vwCl[ci]? = some q) (hcls : y'.1.cls = q.1) (ha : h[a]? = some (ci, fs)) (hd' : d' < d) (hC : CD g d' y' (.ref a :: [v1, v2]) h (some v) h2) (hr : (st.map fun v => v.category).sum ≤ 8) (k : J g y d mc ms Q h2 (pc + 3) ls (v :: st)) : J g y d mc ms Q h pc ls (v2 :: v1 :: .ref a :: st) := by
  have z := jcall_V (mc1 := mc) (ms1 := ms) (As := [v1, v2]) (st := st) hd hm hw hw2 hw3 hq hcls ha hd' hC rfl rfl hr (fun r h' q => by rw [q.1, q.2]; exact k)
  rw [Nat.zero_add, Nat.zero_add] at z
  exact z
theorem j_v2n {a ci : Nat} {fs : List Value} {q : vw_C} (hd : decode y.2.1 pc = .ok (.invokevirtual idx, 3)) (hm : jmc y' 2) (hw : Cond.methodLink y.1.cls idx y'.1 ∈ lw_good) (hw2 : Cond.instanceMethod y'.1 ∈ lw_good) (hw3 : Cond.selects y'.1.cls y'.1 y'.1 ∈ lw_good) (hq : vwCl[ci]? = some q) (hcls : y'.1.cls = q.1) (ha : h[a]? = some (ci, fs)) (hd' : d' < d) (hC : CD g d' y' (.ref a :: [v1, v2]) h none h2) (hr : (st.map fun v => v.category).sum ≤ 8) (k : J g y d mc ms Q h2 (pc + 3) ls st) : J g y d mc ms Q h pc ls (v2 :: v1 :: .ref a :: st) := by
  have z := jcall_V (mc1 := mc) (ms1 := ms) (As := [v1, v2]) (st := st) hd hm hw hw2 hw3 hq hcls ha hd' hC rfl rfl hr (fun r h' q => by rw [q.1, q.2]; exact k)
  rw [Nat.zero_add, Nat.zero_add] at z
  exact z
theorem j_v2g {a ci : Nat} {fs : List Value} {q : vw_C} (hd : decode y.2.1 pc = .ok (.invokevirtual idx, 3)) (hm : jmc y' 2) (hw : Cond.methodLink y.1.cls idx y'.1 ∈ lw_good) (hw2 : Cond.instanceMethod y'.1 ∈ lw_good) (hw3 : Cond.selects y'.1.cls y'.1 y'.1 ∈ lw_good) (hq : vwCl[ci]? = some q) (hcls : y'.1.cls = q.1) (ha : h[a]? = some (ci, fs)) (hd' : d' < d) (hC : C g d' 0 0 y' (.ref a :: [v1, v2]) h Q') (hr : (st.map fun v => v.category).sum ≤ 8) (k : ∀ (r : Option Value) (h' : List AC), Q' r h' → J g y d mc ms Q h' (pc + 3) ls (r.toList ++ st)) : J g y d mc ms Q h pc ls (v2 :: v1 :: .ref a :: st) := by
  have z := jcall_V (mc1 := mc) (ms1 := ms) (As := [v1, v2]) (st := st) hd hm hw hw2 hw3 hq hcls ha hd' hC rfl rfl hr (k)
  rw [Nat.zero_add, Nat.zero_add] at z
  exact z
theorem j_ns2 (hd : decode y.2.1 pc = .ok (.invokestatic idx, 3)) (hm : jmc y' 2) (hw : (y.1.cls, idx, y'.1, "LychWeights") ∈ jnest) (hw2 : Cond.static y'.1 ∈ lw_good) (hd' : d' < d) (hC : CD g d' y' [v1, v2] h (some v) h2) (hr : (st.map fun v => v.category).sum ≤ 8) (k : J g y d mc ms Q h2 (pc + 3) ls (v :: st)) : J g y d mc ms Q h pc ls (v2 :: v1 :: st) := by
  have z := jcall_SN (mc1 := mc) (ms1 := ms) (As := [v1, v2]) (st := st) hd hm hw hw2 hd' hC rfl rfl hr (fun r h' q => by rw [q.1, q.2]; exact k)
  rw [Nat.zero_add, Nat.zero_add] at z
  exact z
theorem j_ns2n (hd : decode y.2.1 pc = .ok (.invokestatic idx, 3)) (hm : jmc y' 2) (hw : (y.1.cls, idx, y'.1, "LychWeights") ∈ jnest) (hw2 : Cond.static y'.1 ∈ lw_good) (hd' : d' < d) (hC : CD g d' y' [v1, v2] h none h2) (hr : (st.map fun v => v.category).sum ≤ 8) (k : J g y d mc ms Q h2 (pc + 3) ls st) : J g y d mc ms Q h pc ls (v2 :: v1 :: st) := by
  have z := jcall_SN (mc1 := mc) (ms1 := ms) (As := [v1, v2]) (st := st) hd hm hw hw2 hd' hC rfl rfl hr (fun r h' q => by rw [q.1, q.2]; exact k)
  rw [Nat.zero_add, Nat.zero_add] at z
  exact z
theorem j_ns2g (hd : decode y.2.1 pc = .ok (.invokestatic idx, 3)) (hm : jmc y' 2) (hw : (y.1.cls, idx, y'.1, "LychWeights") ∈ jnest) (hw2 : Cond.static y'.1 ∈ lw_good) (hd' : d' < d) (hC : C g d' 0 0 y' [v1, v2] h Q') (hr : (st.map fun v => v.category).sum ≤ 8) (k : ∀ (r : Option Value) (h' : List AC), Q' r h' → J g y d mc ms Q h' (pc + 3) ls (r.toList ++ st)) : J g y d mc ms Q h pc ls (v2 :: v1 :: st) := by
  have z := jcall_SN (mc1 := mc) (ms1 := ms) (As := [v1, v2]) (st := st) hd hm hw hw2 hd' hC rfl rfl hr (k)
  rw [Nat.zero_add, Nat.zero_add] at z
  exact z
theorem j_s3 (hd : decode y.2.1 pc = .ok (.invokestatic idx, 3)) (hm : jmc y' 3) (hw : Cond.methodLink y.1.cls idx y'.1 ∈ lw_good) (hw2 : Cond.static y'.1 ∈ lw_good) (hd' : d' < d) (hC : CD g d' y' [v1, v2, v3] h (some v) h2) (hr : (st.map fun v => v.category).sum ≤ 8) (k : J g y d mc ms Q h2 (pc + 3) ls (v :: st)) : J g y d mc ms Q h pc ls (v3 :: v2 :: v1 :: st) := by
  have z := jcall_S (mc1 := mc) (ms1 := ms) (As := [v1, v2, v3]) (st := st) hd hm hw hw2 hd' hC rfl rfl hr (fun r h' q => by rw [q.1, q.2]; exact k)
  rw [Nat.zero_add, Nat.zero_add] at z
  exact z
theorem j_s3n (hd : decode y.2.1 pc = .ok (.invokestatic idx, 3)) (hm : jmc y' 3) (hw : Cond.methodLink y.1.cls idx y'.1 ∈ lw_good) (hw2 : Cond.static y'.1 ∈ lw_good) (hd' : d' < d) (hC : CD g d' y' [v1, v2, v3] h none h2) (hr : (st.map fun v => v.category).sum ≤ 8) (k : J g y d mc ms Q h2 (pc + 3) ls st) : J g y d mc ms Q h pc ls (v3 :: v2 :: v1 :: st) := by
  have z := jcall_S (mc1 := mc) (ms1 := ms) (As := [v1, v2, v3]) (st := st) hd hm hw hw2 hd' hC rfl rfl hr (fun r h' q => by rw [q.1, q.2]; exact k)
  rw [Nat.zero_add, Nat.zero_add] at z
  exact z
theorem j_s3g (hd : decode y.2.1 pc = .ok (.invokestatic idx, 3)) (hm : jmc y' 3) (hw : Cond.methodLink y.1.cls idx y'.1 ∈ lw_good) (hw2 : Cond.static y'.1 ∈ lw_good) (hd' : d' < d) (hC : C g d' 0 0 y' [v1, v2, v3] h Q') (hr : (st.map fun v => v.category).sum ≤ 8) (k : ∀ (r : Option Value) (h' : List AC), Q' r h' → J g y d mc ms Q h' (pc + 3) ls (r.toList ++ st)) : J g y d mc ms Q h pc ls (v3 :: v2 :: v1 :: st) := by
  have z := jcall_S (mc1 := mc) (ms1 := ms) (As := [v1, v2, v3]) (st := st) hd hm hw hw2 hd' hC rfl rfl hr (k)
  rw [Nat.zero_add, Nat.zero_add] at z
  exact z
theorem j_v3 {a ci : Nat} {fs : List Value} {q : vw_C} (hd : decode y.2.1 pc = .ok (.invokevirtual idx, 3)) (hm : jmc y' 3) (hw : Cond.methodLink y.1.cls idx y'.1 ∈ lw_good) (hw2 : Cond.instanceMethod y'.1 ∈ lw_good) (hw3 : Cond.selects y'.1.cls y'.1 y'.1 ∈ lw_good) (hq : vwCl[ci]? = some q) (hcls : y'.1.cls = q.1) (ha : h[a]? = some (ci, fs)) (hd' : d' < d) (hC : CD g d' y' (.ref a :: [v1, v2, v3]) h (some v) h2) (hr : (st.map fun v => v.category).sum ≤ 8) (k : J g y d mc ms Q h2 (pc + 3) ls (v :: st)) : J g y d mc ms Q h pc ls (v3 :: v2 :: v1 :: .ref a :: st) := by
  have z := jcall_V (mc1 := mc) (ms1 := ms) (As := [v1, v2, v3]) (st := st) hd hm hw hw2 hw3 hq hcls ha hd' hC rfl rfl hr (fun r h' q => by rw [q.1, q.2]; exact k)
  rw [Nat.zero_add, Nat.zero_add] at z
  exact z
theorem j_v3n {a ci : Nat} {fs : List Value} {q : vw_C} (hd : decode y.2.1 pc = .ok (.invokevirtual idx, 3)) (hm : jmc y' 3) (hw : Cond.methodLink y.1.cls idx y'.1 ∈ lw_good) (hw2 : Cond.instanceMethod y'.1 ∈ lw_good) (hw3 : Cond.selects y'.1.cls y'.1 y'.1 ∈ lw_good) (hq : vwCl[ci]? = some q) (hcls : y'.1.cls = q.1) (ha : h[a]? = some (ci, fs)) (hd' : d' < d) (hC : CD g d' y' (.ref a :: [v1, v2, v3]) h none h2) (hr : (st.map fun v => v.category).sum ≤ 8) (k : J g y d mc ms Q h2 (pc + 3) ls st) : J g y d mc ms Q h pc ls (v3 :: v2 :: v1 :: .ref a :: st) := by
  have z := jcall_V (mc1 := mc) (ms1 := ms) (As := [v1, v2, v3]) (st := st) hd hm hw hw2 hw3 hq hcls ha hd' hC rfl rfl hr (fun r h' q => by rw [q.1, q.2]; exact k)
  rw [Nat.zero_add, Nat.zero_add] at z
  exact z
theorem j_v3g {a ci : Nat} {fs : List Value} {q : vw_C} (hd : decode y.2.1 pc = .ok (.invokevirtual idx, 3)) (hm : jmc y' 3) (hw : Cond.methodLink y.1.cls idx y'.1 ∈ lw_good) (hw2 : Cond.instanceMethod y'.1 ∈ lw_good) (hw3 : Cond.selects y'.1.cls y'.1 y'.1 ∈ lw_good) (hq : vwCl[ci]? = some q) (hcls : y'.1.cls = q.1) (ha : h[a]? = some (ci, fs)) (hd' : d' < d) (hC : C g d' 0 0 y' (.ref a :: [v1, v2, v3]) h Q') (hr : (st.map fun v => v.category).sum ≤ 8) (k : ∀ (r : Option Value) (h' : List AC), Q' r h' → J g y d mc ms Q h' (pc + 3) ls (r.toList ++ st)) : J g y d mc ms Q h pc ls (v3 :: v2 :: v1 :: .ref a :: st) := by
  have z := jcall_V (mc1 := mc) (ms1 := ms) (As := [v1, v2, v3]) (st := st) hd hm hw hw2 hw3 hq hcls ha hd' hC rfl rfl hr (k)
  rw [Nat.zero_add, Nat.zero_add] at z
  exact z
theorem j_ns3 (hd : decode y.2.1 pc = .ok (.invokestatic idx, 3)) (hm : jmc y' 3) (hw : (y.1.cls, idx, y'.1, "LychWeights") ∈ jnest) (hw2 : Cond.static y'.1 ∈ lw_good) (hd' : d' < d) (hC : CD g d' y' [v1, v2, v3] h (some v) h2) (hr : (st.map fun v => v.category).sum ≤ 8) (k : J g y d mc ms Q h2 (pc + 3) ls (v :: st)) : J g y d mc ms Q h pc ls (v3 :: v2 :: v1 :: st) := by
  have z := jcall_SN (mc1 := mc) (ms1 := ms) (As := [v1, v2, v3]) (st := st) hd hm hw hw2 hd' hC rfl rfl hr (fun r h' q => by rw [q.1, q.2]; exact k)
  rw [Nat.zero_add, Nat.zero_add] at z
  exact z
theorem j_ns3n (hd : decode y.2.1 pc = .ok (.invokestatic idx, 3)) (hm : jmc y' 3) (hw : (y.1.cls, idx, y'.1, "LychWeights") ∈ jnest) (hw2 : Cond.static y'.1 ∈ lw_good) (hd' : d' < d) (hC : CD g d' y' [v1, v2, v3] h none h2) (hr : (st.map fun v => v.category).sum ≤ 8) (k : J g y d mc ms Q h2 (pc + 3) ls st) : J g y d mc ms Q h pc ls (v3 :: v2 :: v1 :: st) := by
  have z := jcall_SN (mc1 := mc) (ms1 := ms) (As := [v1, v2, v3]) (st := st) hd hm hw hw2 hd' hC rfl rfl hr (fun r h' q => by rw [q.1, q.2]; exact k)
  rw [Nat.zero_add, Nat.zero_add] at z
  exact z
theorem j_ns3g (hd : decode y.2.1 pc = .ok (.invokestatic idx, 3)) (hm : jmc y' 3) (hw : (y.1.cls, idx, y'.1, "LychWeights") ∈ jnest) (hw2 : Cond.static y'.1 ∈ lw_good) (hd' : d' < d) (hC : C g d' 0 0 y' [v1, v2, v3] h Q') (hr : (st.map fun v => v.category).sum ≤ 8) (k : ∀ (r : Option Value) (h' : List AC), Q' r h' → J g y d mc ms Q h' (pc + 3) ls (r.toList ++ st)) : J g y d mc ms Q h pc ls (v3 :: v2 :: v1 :: st) := by
  have z := jcall_SN (mc1 := mc) (ms1 := ms) (As := [v1, v2, v3]) (st := st) hd hm hw hw2 hd' hC rfl rfl hr (k)
  rw [Nat.zero_add, Nat.zero_add] at z
  exact z
theorem j_s4 (hd : decode y.2.1 pc = .ok (.invokestatic idx, 3)) (hm : jmc y' 4) (hw : Cond.methodLink y.1.cls idx y'.1 ∈ lw_good) (hw2 : Cond.static y'.1 ∈ lw_good) (hd' : d' < d) (hC : CD g d' y' [v1, v2, v3, v4] h (some v) h2) (hr : (st.map fun v => v.category).sum ≤ 8) (k : J g y d mc ms Q h2 (pc + 3) ls (v :: st)) : J g y d mc ms Q h pc ls (v4 :: v3 :: v2 :: v1 :: st) := by
  have z := jcall_S (mc1 := mc) (ms1 := ms) (As := [v1, v2, v3, v4]) (st := st) hd hm hw hw2 hd' hC rfl rfl hr (fun r h' q => by rw [q.1, q.2]; exact k)
  rw [Nat.zero_add, Nat.zero_add] at z
  exact z
theorem j_s4n (hd : decode y.2.1 pc = .ok (.invokestatic idx, 3)) (hm : jmc y' 4) (hw : Cond.methodLink y.1.cls idx y'.1 ∈ lw_good) (hw2 : Cond.static y'.1 ∈ lw_good) (hd' : d' < d) (hC : CD g d' y' [v1, v2, v3, v4] h none h2) (hr : (st.map fun v => v.category).sum ≤ 8) (k : J g y d mc ms Q h2 (pc + 3) ls st) : J g y d mc ms Q h pc ls (v4 :: v3 :: v2 :: v1 :: st) := by
  have z := jcall_S (mc1 := mc) (ms1 := ms) (As := [v1, v2, v3, v4]) (st := st) hd hm hw hw2 hd' hC rfl rfl hr (fun r h' q => by rw [q.1, q.2]; exact k)
  rw [Nat.zero_add, Nat.zero_add] at z
  exact z
theorem j_s4g (hd : decode y.2.1 pc = .ok (.invokestatic idx, 3)) (hm : jmc y' 4) (hw : Cond.methodLink y.1.cls idx y'.1 ∈ lw_good) (hw2 : Cond.static y'.1 ∈ lw_good) (hd' : d' < d) (hC : C g d' 0 0 y' [v1, v2, v3, v4] h Q') (hr : (st.map fun v => v.category).sum ≤ 8) (k : ∀ (r : Option Value) (h' : List AC), Q' r h' → J g y d mc ms Q h' (pc + 3) ls (r.toList ++ st)) : J g y d mc ms Q h pc ls (v4 :: v3 :: v2 :: v1 :: st) := by
  have z := jcall_S (mc1 := mc) (ms1 := ms) (As := [v1, v2, v3, v4]) (st := st) hd hm hw hw2 hd' hC rfl rfl hr (k)
  rw [Nat.zero_add, Nat.zero_add] at z
  exact z
theorem j_v4 {a ci : Nat} {fs : List Value} {q : vw_C} (hd : decode y.2.1 pc = .ok (.invokevirtual idx, 3)) (hm : jmc y' 4) (hw : Cond.methodLink y.1.cls idx y'.1 ∈ lw_good) (hw2 : Cond.instanceMethod y'.1 ∈ lw_good) (hw3 : Cond.selects y'.1.cls y'.1 y'.1 ∈ lw_good) (hq : vwCl[ci]? = some q) (hcls : y'.1.cls = q.1) (ha : h[a]? = some (ci, fs)) (hd' : d' < d) (hC : CD g d' y' (.ref a :: [v1, v2, v3, v4]) h (some v) h2) (hr : (st.map fun v => v.category).sum ≤ 8) (k : J g y d mc ms Q h2 (pc + 3) ls (v :: st)) : J g y d mc ms Q h pc ls (v4 :: v3 :: v2 :: v1 :: .ref a :: st) := by
  have z := jcall_V (mc1 := mc) (ms1 := ms) (As := [v1, v2, v3, v4]) (st := st) hd hm hw hw2 hw3 hq hcls ha hd' hC rfl rfl hr (fun r h' q => by rw [q.1, q.2]; exact k)
  rw [Nat.zero_add, Nat.zero_add] at z
  exact z
theorem j_v4n {a ci : Nat} {fs : List Value} {q : vw_C} (hd : decode y.2.1 pc = .ok (.invokevirtual idx, 3)) (hm : jmc y' 4) (hw : Cond.methodLink y.1.cls idx y'.1 ∈ lw_good) (hw2 : Cond.instanceMethod y'.1 ∈ lw_good) (hw3 : Cond.selects y'.1.cls y'.1 y'.1 ∈ lw_good) (hq : vwCl[ci]? = some q) (hcls : y'.1.cls = q.1) (ha : h[a]? = some (ci, fs)) (hd' : d' < d) (hC : CD g d' y' (.ref a :: [v1, v2, v3, v4]) h none h2) (hr : (st.map fun v => v.category).sum ≤ 8) (k : J g y d mc ms Q h2 (pc + 3) ls st) : J g y d mc ms Q h pc ls (v4 :: v3 :: v2 :: v1 :: .ref a :: st) := by
  have z := jcall_V (mc1 := mc) (ms1 := ms) (As := [v1, v2, v3, v4]) (st := st) hd hm hw hw2 hw3 hq hcls ha hd' hC rfl rfl hr (fun r h' q => by rw [q.1, q.2]; exact k)
  rw [Nat.zero_add, Nat.zero_add] at z
  exact z
theorem j_v4g {a ci : Nat} {fs : List Value} {q : vw_C} (hd : decode y.2.1 pc = .ok (.invokevirtual idx, 3)) (hm : jmc y' 4) (hw : Cond.methodLink y.1.cls idx y'.1 ∈ lw_good) (hw2 : Cond.instanceMethod y'.1 ∈ lw_good) (hw3 : Cond.selects y'.1.cls y'.1 y'.1 ∈ lw_good) (hq : vwCl[ci]? = some q) (hcls : y'.1.cls = q.1) (ha : h[a]? = some (ci, fs)) (hd' : d' < d) (hC : C g d' 0 0 y' (.ref a :: [v1, v2, v3, v4]) h Q') (hr : (st.map fun v => v.category).sum ≤ 8) (k : ∀ (r : Option Value) (h' : List AC), Q' r h' → J g y d mc ms Q h' (pc + 3) ls (r.toList ++ st)) : J g y d mc ms Q h pc ls (v4 :: v3 :: v2 :: v1 :: .ref a :: st) := by
  have z := jcall_V (mc1 := mc) (ms1 := ms) (As := [v1, v2, v3, v4]) (st := st) hd hm hw hw2 hw3 hq hcls ha hd' hC rfl rfl hr (k)
  rw [Nat.zero_add, Nat.zero_add] at z
  exact z
theorem j_ns4 (hd : decode y.2.1 pc = .ok (.invokestatic idx, 3)) (hm : jmc y' 4) (hw : (y.1.cls, idx, y'.1, "LychWeights") ∈ jnest) (hw2 : Cond.static y'.1 ∈ lw_good) (hd' : d' < d) (hC : CD g d' y' [v1, v2, v3, v4] h (some v) h2) (hr : (st.map fun v => v.category).sum ≤ 8) (k : J g y d mc ms Q h2 (pc + 3) ls (v :: st)) : J g y d mc ms Q h pc ls (v4 :: v3 :: v2 :: v1 :: st) := by
  have z := jcall_SN (mc1 := mc) (ms1 := ms) (As := [v1, v2, v3, v4]) (st := st) hd hm hw hw2 hd' hC rfl rfl hr (fun r h' q => by rw [q.1, q.2]; exact k)
  rw [Nat.zero_add, Nat.zero_add] at z
  exact z
theorem j_ns4n (hd : decode y.2.1 pc = .ok (.invokestatic idx, 3)) (hm : jmc y' 4) (hw : (y.1.cls, idx, y'.1, "LychWeights") ∈ jnest) (hw2 : Cond.static y'.1 ∈ lw_good) (hd' : d' < d) (hC : CD g d' y' [v1, v2, v3, v4] h none h2) (hr : (st.map fun v => v.category).sum ≤ 8) (k : J g y d mc ms Q h2 (pc + 3) ls st) : J g y d mc ms Q h pc ls (v4 :: v3 :: v2 :: v1 :: st) := by
  have z := jcall_SN (mc1 := mc) (ms1 := ms) (As := [v1, v2, v3, v4]) (st := st) hd hm hw hw2 hd' hC rfl rfl hr (fun r h' q => by rw [q.1, q.2]; exact k)
  rw [Nat.zero_add, Nat.zero_add] at z
  exact z
theorem j_ns4g (hd : decode y.2.1 pc = .ok (.invokestatic idx, 3)) (hm : jmc y' 4) (hw : (y.1.cls, idx, y'.1, "LychWeights") ∈ jnest) (hw2 : Cond.static y'.1 ∈ lw_good) (hd' : d' < d) (hC : C g d' 0 0 y' [v1, v2, v3, v4] h Q') (hr : (st.map fun v => v.category).sum ≤ 8) (k : ∀ (r : Option Value) (h' : List AC), Q' r h' → J g y d mc ms Q h' (pc + 3) ls (r.toList ++ st)) : J g y d mc ms Q h pc ls (v4 :: v3 :: v2 :: v1 :: st) := by
  have z := jcall_SN (mc1 := mc) (ms1 := ms) (As := [v1, v2, v3, v4]) (st := st) hd hm hw hw2 hd' hC rfl rfl hr (k)
  rw [Nat.zero_add, Nat.zero_add] at z
  exact z
theorem j_s5 (hd : decode y.2.1 pc = .ok (.invokestatic idx, 3)) (hm : jmc y' 5) (hw : Cond.methodLink y.1.cls idx y'.1 ∈ lw_good) (hw2 : Cond.static y'.1 ∈ lw_good) (hd' : d' < d) (hC : CD g d' y' [v1, v2, v3, v4, v5] h (some v) h2) (hr : (st.map fun v => v.category).sum ≤ 8) (k : J g y d mc ms Q h2 (pc + 3) ls (v :: st)) : J g y d mc ms Q h pc ls (v5 :: v4 :: v3 :: v2 :: v1 :: st) := by
  have z := jcall_S (mc1 := mc) (ms1 := ms) (As := [v1, v2, v3, v4, v5]) (st := st) hd hm hw hw2 hd' hC rfl rfl hr (fun r h' q => by rw [q.1, q.2]; exact k)
  rw [Nat.zero_add, Nat.zero_add] at z
  exact z
theorem j_s5n (hd : decode y.2.1 pc = .ok (.invokestatic idx, 3)) (hm : jmc y' 5) (hw : Cond.methodLink y.1.cls idx y'.1 ∈ lw_good) (hw2 : Cond.static y'.1 ∈ lw_good) (hd' : d' < d) (hC : CD g d' y' [v1, v2, v3, v4, v5] h none h2) (hr : (st.map fun v => v.category).sum ≤ 8) (k : J g y d mc ms Q h2 (pc + 3) ls st) : J g y d mc ms Q h pc ls (v5 :: v4 :: v3 :: v2 :: v1 :: st) := by
  have z := jcall_S (mc1 := mc) (ms1 := ms) (As := [v1, v2, v3, v4, v5]) (st := st) hd hm hw hw2 hd' hC rfl rfl hr (fun r h' q => by rw [q.1, q.2]; exact k)
  rw [Nat.zero_add, Nat.zero_add] at z
  exact z
theorem j_s5g (hd : decode y.2.1 pc = .ok (.invokestatic idx, 3)) (hm : jmc y' 5) (hw : Cond.methodLink y.1.cls idx y'.1 ∈ lw_good) (hw2 : Cond.static y'.1 ∈ lw_good) (hd' : d' < d) (hC : C g d' 0 0 y' [v1, v2, v3, v4, v5] h Q') (hr : (st.map fun v => v.category).sum ≤ 8) (k : ∀ (r : Option Value) (h' : List AC), Q' r h' → J g y d mc ms Q h' (pc + 3) ls (r.toList ++ st)) : J g y d mc ms Q h pc ls (v5 :: v4 :: v3 :: v2 :: v1 :: st) := by
  have z := jcall_S (mc1 := mc) (ms1 := ms) (As := [v1, v2, v3, v4, v5]) (st := st) hd hm hw hw2 hd' hC rfl rfl hr (k)
  rw [Nat.zero_add, Nat.zero_add] at z
  exact z
theorem j_v5 {a ci : Nat} {fs : List Value} {q : vw_C} (hd : decode y.2.1 pc = .ok (.invokevirtual idx, 3)) (hm : jmc y' 5) (hw : Cond.methodLink y.1.cls idx y'.1 ∈ lw_good) (hw2 : Cond.instanceMethod y'.1 ∈ lw_good) (hw3 : Cond.selects y'.1.cls y'.1 y'.1 ∈ lw_good) (hq : vwCl[ci]? = some q) (hcls : y'.1.cls = q.1) (ha : h[a]? = some (ci, fs)) (hd' : d' < d) (hC : CD g d' y' (.ref a :: [v1, v2, v3, v4, v5]) h (some v) h2) (hr : (st.map fun v => v.category).sum ≤ 8) (k : J g y d mc ms Q h2 (pc + 3) ls (v :: st)) : J g y d mc ms Q h pc ls (v5 :: v4 :: v3 :: v2 :: v1 :: .ref a :: st) := by
  have z := jcall_V (mc1 := mc) (ms1 := ms) (As := [v1, v2, v3, v4, v5]) (st := st) hd hm hw hw2 hw3 hq hcls ha hd' hC rfl rfl hr (fun r h' q => by rw [q.1, q.2]; exact k)
  rw [Nat.zero_add, Nat.zero_add] at z
  exact z
theorem j_v5n {a ci : Nat} {fs : List Value} {q : vw_C} (hd : decode y.2.1 pc = .ok (.invokevirtual idx, 3)) (hm : jmc y' 5) (hw : Cond.methodLink y.1.cls idx y'.1 ∈ lw_good) (hw2 : Cond.instanceMethod y'.1 ∈ lw_good) (hw3 : Cond.selects y'.1.cls y'.1 y'.1 ∈ lw_good) (hq : vwCl[ci]? = some q) (hcls : y'.1.cls = q.1) (ha : h[a]? = some (ci, fs)) (hd' : d' < d) (hC : CD g d' y' (.ref a :: [v1, v2, v3, v4, v5]) h none h2) (hr : (st.map fun v => v.category).sum ≤ 8) (k : J g y d mc ms Q h2 (pc + 3) ls st) : J g y d mc ms Q h pc ls (v5 :: v4 :: v3 :: v2 :: v1 :: .ref a :: st) := by
  have z := jcall_V (mc1 := mc) (ms1 := ms) (As := [v1, v2, v3, v4, v5]) (st := st) hd hm hw hw2 hw3 hq hcls ha hd' hC rfl rfl hr (fun r h' q => by rw [q.1, q.2]; exact k)
  rw [Nat.zero_add, Nat.zero_add] at z
  exact z
theorem j_v5g {a ci : Nat} {fs : List Value} {q : vw_C} (hd : decode y.2.1 pc = .ok (.invokevirtual idx, 3)) (hm : jmc y' 5) (hw : Cond.methodLink y.1.cls idx y'.1 ∈ lw_good) (hw2 : Cond.instanceMethod y'.1 ∈ lw_good) (hw3 : Cond.selects y'.1.cls y'.1 y'.1 ∈ lw_good) (hq : vwCl[ci]? = some q) (hcls : y'.1.cls = q.1) (ha : h[a]? = some (ci, fs)) (hd' : d' < d) (hC : C g d' 0 0 y' (.ref a :: [v1, v2, v3, v4, v5]) h Q') (hr : (st.map fun v => v.category).sum ≤ 8) (k : ∀ (r : Option Value) (h' : List AC), Q' r h' → J g y d mc ms Q h' (pc + 3) ls (r.toList ++ st)) : J g y d mc ms Q h pc ls (v5 :: v4 :: v3 :: v2 :: v1 :: .ref a :: st) := by
  have z := jcall_V (mc1 := mc) (ms1 := ms) (As := [v1, v2, v3, v4, v5]) (st := st) hd hm hw hw2 hw3 hq hcls ha hd' hC rfl rfl hr (k)
  rw [Nat.zero_add, Nat.zero_add] at z
  exact z
theorem j_ns5 (hd : decode y.2.1 pc = .ok (.invokestatic idx, 3)) (hm : jmc y' 5) (hw : (y.1.cls, idx, y'.1, "LychWeights") ∈ jnest) (hw2 : Cond.static y'.1 ∈ lw_good) (hd' : d' < d) (hC : CD g d' y' [v1, v2, v3, v4, v5] h (some v) h2) (hr : (st.map fun v => v.category).sum ≤ 8) (k : J g y d mc ms Q h2 (pc + 3) ls (v :: st)) : J g y d mc ms Q h pc ls (v5 :: v4 :: v3 :: v2 :: v1 :: st) := by
  have z := jcall_SN (mc1 := mc) (ms1 := ms) (As := [v1, v2, v3, v4, v5]) (st := st) hd hm hw hw2 hd' hC rfl rfl hr (fun r h' q => by rw [q.1, q.2]; exact k)
  rw [Nat.zero_add, Nat.zero_add] at z
  exact z
theorem j_ns5n (hd : decode y.2.1 pc = .ok (.invokestatic idx, 3)) (hm : jmc y' 5) (hw : (y.1.cls, idx, y'.1, "LychWeights") ∈ jnest) (hw2 : Cond.static y'.1 ∈ lw_good) (hd' : d' < d) (hC : CD g d' y' [v1, v2, v3, v4, v5] h none h2) (hr : (st.map fun v => v.category).sum ≤ 8) (k : J g y d mc ms Q h2 (pc + 3) ls st) : J g y d mc ms Q h pc ls (v5 :: v4 :: v3 :: v2 :: v1 :: st) := by
  have z := jcall_SN (mc1 := mc) (ms1 := ms) (As := [v1, v2, v3, v4, v5]) (st := st) hd hm hw hw2 hd' hC rfl rfl hr (fun r h' q => by rw [q.1, q.2]; exact k)
  rw [Nat.zero_add, Nat.zero_add] at z
  exact z
theorem j_ns5g (hd : decode y.2.1 pc = .ok (.invokestatic idx, 3)) (hm : jmc y' 5) (hw : (y.1.cls, idx, y'.1, "LychWeights") ∈ jnest) (hw2 : Cond.static y'.1 ∈ lw_good) (hd' : d' < d) (hC : C g d' 0 0 y' [v1, v2, v3, v4, v5] h Q') (hr : (st.map fun v => v.category).sum ≤ 8) (k : ∀ (r : Option Value) (h' : List AC), Q' r h' → J g y d mc ms Q h' (pc + 3) ls (r.toList ++ st)) : J g y d mc ms Q h pc ls (v5 :: v4 :: v3 :: v2 :: v1 :: st) := by
  have z := jcall_SN (mc1 := mc) (ms1 := ms) (As := [v1, v2, v3, v4, v5]) (st := st) hd hm hw hw2 hd' hC rfl rfl hr (k)
  rw [Nat.zero_add, Nat.zero_add] at z
  exact z
theorem j_i0 {a mc' ms' mc1 ms1 : Nat} (hd : decode y.2.1 pc = .ok (.invokespecial idx, 3)) (hm : jmc y' 0) (hret : y'.2.2.2 = none) (hname : y'.1.name = "<init>") (hw : Cond.methodLink y.1.cls idx y'.1 ∈ lw_good) (hw2 : Cond.instanceMethod y'.1 ∈ lw_good) (hd' : d' < d) (hC : C g d' mc' ms' y' (.ref a :: []) h (fun r h' => r = none ∧ h' = h2)) (hr : (st.map fun v => v.category).sum ≤ 8) (hmc : mc = mc1 + mc') (hms : ms = ms1 + ms') (k : J g y d mc1 ms1 Q h2 (pc + 3) ls st) : J g y d mc ms Q h pc ls (.ref a :: st) := by
  subst hmc
  subst hms
  rw [Nat.add_comm mc1, Nat.add_comm ms1]
  exact jcall_I (As := []) (st := st) hd hm hret hname hw hw2 hd' hC rfl rfl hr (fun r h' q => by rw [q.1, q.2]; exact k)
theorem j_ni0 {a mc' ms' mc1 ms1 : Nat} (hd : decode y.2.1 pc = .ok (.invokespecial idx, 3)) (hm : jmc y' 0) (hret : y'.2.2.2 = none) (hname : y'.1.name = "<init>") (hw : (y.1.cls, idx, y'.1, "LychWeights") ∈ jnest) (hw2 : Cond.instanceMethod y'.1 ∈ lw_good) (hd' : d' < d) (hC : C g d' mc' ms' y' (.ref a :: []) h (fun r h' => r = none ∧ h' = h2)) (hr : (st.map fun v => v.category).sum ≤ 8) (hmc : mc = mc1 + mc') (hms : ms = ms1 + ms') (k : J g y d mc1 ms1 Q h2 (pc + 3) ls st) : J g y d mc ms Q h pc ls (.ref a :: st) := by
  subst hmc
  subst hms
  rw [Nat.add_comm mc1, Nat.add_comm ms1]
  exact jcall_IN (As := []) (st := st) hd hm hret hname hw hw2 hd' hC rfl rfl hr (fun r h' q => by rw [q.1, q.2]; exact k)
theorem j_i1 {a mc' ms' mc1 ms1 : Nat} (hd : decode y.2.1 pc = .ok (.invokespecial idx, 3)) (hm : jmc y' 1) (hret : y'.2.2.2 = none) (hname : y'.1.name = "<init>") (hw : Cond.methodLink y.1.cls idx y'.1 ∈ lw_good) (hw2 : Cond.instanceMethod y'.1 ∈ lw_good) (hd' : d' < d) (hC : C g d' mc' ms' y' (.ref a :: [v1]) h (fun r h' => r = none ∧ h' = h2)) (hr : (st.map fun v => v.category).sum ≤ 8) (hmc : mc = mc1 + mc') (hms : ms = ms1 + ms') (k : J g y d mc1 ms1 Q h2 (pc + 3) ls st) : J g y d mc ms Q h pc ls (v1 :: .ref a :: st) := by
  subst hmc
  subst hms
  rw [Nat.add_comm mc1, Nat.add_comm ms1]
  exact jcall_I (As := [v1]) (st := st) hd hm hret hname hw hw2 hd' hC rfl rfl hr (fun r h' q => by rw [q.1, q.2]; exact k)
theorem j_ni1 {a mc' ms' mc1 ms1 : Nat} (hd : decode y.2.1 pc = .ok (.invokespecial idx, 3)) (hm : jmc y' 1) (hret : y'.2.2.2 = none) (hname : y'.1.name = "<init>") (hw : (y.1.cls, idx, y'.1, "LychWeights") ∈ jnest) (hw2 : Cond.instanceMethod y'.1 ∈ lw_good) (hd' : d' < d) (hC : C g d' mc' ms' y' (.ref a :: [v1]) h (fun r h' => r = none ∧ h' = h2)) (hr : (st.map fun v => v.category).sum ≤ 8) (hmc : mc = mc1 + mc') (hms : ms = ms1 + ms') (k : J g y d mc1 ms1 Q h2 (pc + 3) ls st) : J g y d mc ms Q h pc ls (v1 :: .ref a :: st) := by
  subst hmc
  subst hms
  rw [Nat.add_comm mc1, Nat.add_comm ms1]
  exact jcall_IN (As := [v1]) (st := st) hd hm hret hname hw hw2 hd' hC rfl rfl hr (fun r h' q => by rw [q.1, q.2]; exact k)
theorem j_i2 {a mc' ms' mc1 ms1 : Nat} (hd : decode y.2.1 pc = .ok (.invokespecial idx, 3)) (hm : jmc y' 2) (hret : y'.2.2.2 = none) (hname : y'.1.name = "<init>") (hw : Cond.methodLink y.1.cls idx y'.1 ∈ lw_good) (hw2 : Cond.instanceMethod y'.1 ∈ lw_good) (hd' : d' < d) (hC : C g d' mc' ms' y' (.ref a :: [v1, v2]) h (fun r h' => r = none ∧ h' = h2)) (hr : (st.map fun v => v.category).sum ≤ 8) (hmc : mc = mc1 + mc') (hms : ms = ms1 + ms') (k : J g y d mc1 ms1 Q h2 (pc + 3) ls st) : J g y d mc ms Q h pc ls (v2 :: v1 :: .ref a :: st) := by
  subst hmc
  subst hms
  rw [Nat.add_comm mc1, Nat.add_comm ms1]
  exact jcall_I (As := [v1, v2]) (st := st) hd hm hret hname hw hw2 hd' hC rfl rfl hr (fun r h' q => by rw [q.1, q.2]; exact k)
theorem j_ni2 {a mc' ms' mc1 ms1 : Nat} (hd : decode y.2.1 pc = .ok (.invokespecial idx, 3)) (hm : jmc y' 2) (hret : y'.2.2.2 = none) (hname : y'.1.name = "<init>") (hw : (y.1.cls, idx, y'.1, "LychWeights") ∈ jnest) (hw2 : Cond.instanceMethod y'.1 ∈ lw_good) (hd' : d' < d) (hC : C g d' mc' ms' y' (.ref a :: [v1, v2]) h (fun r h' => r = none ∧ h' = h2)) (hr : (st.map fun v => v.category).sum ≤ 8) (hmc : mc = mc1 + mc') (hms : ms = ms1 + ms') (k : J g y d mc1 ms1 Q h2 (pc + 3) ls st) : J g y d mc ms Q h pc ls (v2 :: v1 :: .ref a :: st) := by
  subst hmc
  subst hms
  rw [Nat.add_comm mc1, Nat.add_comm ms1]
  exact jcall_IN (As := [v1, v2]) (st := st) hd hm hret hname hw hw2 hd' hC rfl rfl hr (fun r h' q => by rw [q.1, q.2]; exact k)
theorem j_ialdE {a t n k : Nat} {f : Fn} {i : Int32} (hd : decode y.2.1 pc = .ok (.iaload, 1)) (ha : h[a]? = some (t, iv n f)) (ht : jty t = some .int) (hi : i = nI k) (hk : k < n) (hn : n < 2 ^ 31) (kk : J g y d mc ms Q h (pc + 1) ls (.int (f k) :: st)) : J g y d mc ms Q h pc ls (.int i :: .ref a :: st) := by
  subst hi
  refine j_iald hd ha ht (vp_in_nI hk hn) ?_
  rw [nI_clamp (by omega)]
  exact kk
theorem j_iastE {a n k : Nat} {f : Fn} {i x : Int32} {h2 : List AC} (hd : decode y.2.1 pc = .ok (.iastore, 1)) (ha : h[a]? = some (8, iv n f)) (hi : i = nI k) (hk : k < n) (hn : n < 2 ^ 31) (hs : h.set a (8, iv n (upd f k x)) = h2) (kk : J g y d mc ms Q h2 (pc + 1) ls st) : J g y d mc ms Q h pc ls (.int x :: .int i :: .ref a :: st) := by
  subst hi
  exact j_iast hd ha (vp_in_nI hk hn) (by rw [nI_clamp (by omega)]; exact hs) kk
theorem j_zaldE {a n k : Nat} {f : Nat → Bool} {i : Int32} (hd : decode y.2.1 pc = .ok (.baload, 1)) (ha : h[a]? = some (9, zv n f)) (hi : i = nI k) (hk : k < n) (hn : n < 2 ^ 31) (kk : J g y d mc ms Q h (pc + 1) ls (.int (b2i (f k)) :: st)) : J g y d mc ms Q h pc ls (.int i :: .ref a :: st) := by
  subst hi
  refine j_zald hd ha (vp_in_nI hk hn) ?_
  rw [nI_clamp (by omega)]
  exact kk
theorem j_zastE {a n k : Nat} {f : Nat → Bool} {i x : Int32} {b : Bool} {h2 : List AC} (hd : decode y.2.1 pc = .ok (.bastore, 1)) (hb : x = b2i b) (ha : h[a]? = some (9, zv n f)) (hi : i = nI k) (hk : k < n) (hn : n < 2 ^ 31) (hs : h.set a (9, zv n (updB f k b)) = h2) (kk : J g y d mc ms Q h2 (pc + 1) ls st) : J g y d mc ms Q h pc ls (.int x :: .int i :: .ref a :: st) := by
  subst hi
  exact j_zast hd hb ha (vp_in_nI hk hn) (by rw [nI_clamp (by omega)]; exact hs) kk
theorem j_aaldE {a b n k : Nat} {vs : List Value} {i : Int32} (hd : decode y.2.1 pc = .ok (.aaload, 1)) (ha : h[a]? = some (10, vs)) (hi : i = nI k) (hn : vs.length = n) (hk : k < n) (hn2 : n < 2 ^ 31) (hv : vs[k]? = some (.ref b)) (kk : J g y d mc ms Q h (pc + 1) ls (.ref b :: st)) : J g y d mc ms Q h pc ls (.int i :: .ref a :: st) := by
  subst hi
  exact j_aald hd ha hn (vp_in_nI hk hn2) (by rw [nI_clamp (by omega)]; exact hv) kk
end

/-! one row an instruction for J (written by wip/whole/gen05.py) -/
section
variable {g : GG} {y : MI} {d mc ms : Nat} {Q : Option Value → List AC → Prop} {h : List AC} {pc : Nat} {ls : List (Option Value)} {st : List Value}
theorem j_iconst {n : Int} {v : Int32} (hd : decode y.2.1 pc = .ok (.iconst n, 1)) (hv : Int32.ofInt n = v) (k : J g y d mc ms Q h (pc + 1) ls (.int v :: st)) : J g y d mc ms Q h pc ls (st) := by
  intro p e R s m args below meth c H locs cells slots lsr X L
  exact lv_iconst X.1.1 X.1.2.1 hd hv (k p e R s m args below meth c H locs cells slots lsr X L)
theorem j_bipush {n : Int} {v : Int32} (hd : decode y.2.1 pc = .ok (.bipush n, 2)) (hv : (Int8.ofInt n).toInt32 = v) (k : J g y d mc ms Q h (pc + 2) ls (.int v :: st)) : J g y d mc ms Q h pc ls (st) := by
  intro p e R s m args below meth c H locs cells slots lsr X L
  exact lv_bipush X.1.1 X.1.2.1 hd hv (k p e R s m args below meth c H locs cells slots lsr X L)
theorem j_sipush {n : Int} {v : Int32} (hd : decode y.2.1 pc = .ok (.sipush n, 3)) (hv : (Int16.ofInt n).toInt32 = v) (k : J g y d mc ms Q h (pc + 3) ls (.int v :: st)) : J g y d mc ms Q h pc ls (st) := by
  intro p e R s m args below meth c H locs cells slots lsr X L
  exact lv_sipush X.1.1 X.1.2.1 hd hv (k p e R s m args below meth c H locs cells slots lsr X L)
theorem j_lconst {n : Fin 2} {v : Int64} (hd : decode y.2.1 pc = .ok (.lconst n, 1)) (hv : Int64.ofNat (n : Nat) = v) (k : J g y d mc ms Q h (pc + 1) ls (.long v :: st)) : J g y d mc ms Q h pc ls (st) := by
  intro p e R s m args below meth c H locs cells slots lsr X L
  exact lv_lconst X.1.1 X.1.2.1 hd hv (k p e R s m args below meth c H locs cells slots lsr X L)
theorem j_ldc {index : Nat} {v : Int32} (hd : decode y.2.1 pc = .ok (.ldc index, 2)) (hw : Cond.constant y.1.cls index v ∈ lw_good) (k : J g y d mc ms Q h (pc + 2) ls (.int v :: st)) : J g y d mc ms Q h pc ls (st) := by
  intro p e R s m args below meth c H locs cells slots lsr X L
  exact lv_ldc X.1.1 X.1.2.1 X.1.2.2.2.2.2.1 (X.1.2.2.2.2.2.2.2.1 _ hw) hd (k p e R s m args below meth c H locs cells slots lsr X L)
theorem j_ldcw {index : Nat} {v : Int32} (hd : decode y.2.1 pc = .ok (.ldc_w index, 3)) (hw : Cond.constant y.1.cls index v ∈ lw_good) (k : J g y d mc ms Q h (pc + 3) ls (.int v :: st)) : J g y d mc ms Q h pc ls (st) := by
  intro p e R s m args below meth c H locs cells slots lsr X L
  exact lv_ldcw X.1.1 X.1.2.1 X.1.2.2.2.2.2.1 (X.1.2.2.2.2.2.2.2.1 _ hw) hd (k p e R s m args below meth c H locs cells slots lsr X L)
theorem j_ldc2 {index : Nat} {v : Int64} (hd : decode y.2.1 pc = .ok (.ldc2_w index, 3)) (hw : Cond.constantLong y.1.cls index v ∈ lw_good) (k : J g y d mc ms Q h (pc + 3) ls (.long v :: st)) : J g y d mc ms Q h pc ls (st) := by
  intro p e R s m args below meth c H locs cells slots lsr X L
  exact lv_ldc2 X.1.1 X.1.2.1 X.1.2.2.2.2.2.1 (X.1.2.2.2.2.2.2.2.1 _ hw) hd (k p e R s m args below meth c H locs cells slots lsr X L)
theorem j_iload_n {j : Fin 4} {x : Int32} (hd : decode y.2.1 pc = .ok (.iload_n j, 1)) (hl : ls[(j : Nat)]? = some (some (.int x))) (k : J g y d mc ms Q h (pc + 1) ls (.int x :: st)) : J g y d mc ms Q h pc ls (st) := by
  intro p e R s m args below meth c H locs cells slots lsr X L
  exact lv_iload_n X.1.1 X.1.2.1 hd rfl (L.at hl) (k p e R s m args below meth c H locs cells slots lsr X L)
theorem j_iload {i : Nat} {x : Int32} (hd : decode y.2.1 pc = .ok (.iload i, 2)) (hl : ls[i]? = some (some (.int x))) (k : J g y d mc ms Q h (pc + 2) ls (.int x :: st)) : J g y d mc ms Q h pc ls (st) := by
  intro p e R s m args below meth c H locs cells slots lsr X L
  exact lv_iload X.1.1 X.1.2.1 hd (L.at hl) (k p e R s m args below meth c H locs cells slots lsr X L)
theorem j_aload_n {j : Fin 4} {a : Nat} (hd : decode y.2.1 pc = .ok (.aload_n j, 1)) (hl : ls[(j : Nat)]? = some (some (.ref a))) (k : J g y d mc ms Q h (pc + 1) ls (.ref a :: st)) : J g y d mc ms Q h pc ls (st) := by
  intro p e R s m args below meth c H locs cells slots lsr X L
  exact lv_aload_n X.1.1 X.1.2.1 hd rfl (L.at hl) (k p e R s m args below meth c H locs cells slots lsr X L)
theorem j_aload {i : Nat} {a : Nat} (hd : decode y.2.1 pc = .ok (.aload i, 2)) (hl : ls[i]? = some (some (.ref a))) (k : J g y d mc ms Q h (pc + 2) ls (.ref a :: st)) : J g y d mc ms Q h pc ls (st) := by
  intro p e R s m args below meth c H locs cells slots lsr X L
  exact lv_aload X.1.1 X.1.2.1 hd (L.at hl) (k p e R s m args below meth c H locs cells slots lsr X L)
theorem j_istore_n {x : Int32} {i : Nat} {j : Fin 4} {ls2 : List (Option Value)} (hd : decode y.2.1 pc = .ok (.istore_n j, 1)) (hi : (j : Nat) = i) (hn : i < y.2.2.1) (hs : ls.set i (some (.int x)) = ls2) (k : J g y d mc ms Q h (pc + 1) ls2 (st)) : J g y d mc ms Q h pc ls ((.int x) :: st) := by
  intro p e R s m args below meth c H locs cells slots lsr X L
  subst hs
  refine lv_istore_n X.1.1 X.1.2.1 hd hi L.has hn rfl (fun lsr2 L2 => ?_)
  exact k p e R s m args below meth c H locs cells slots lsr2 X (L.set rfl L2)
theorem j_istore {x : Int32} {i : Nat}  {ls2 : List (Option Value)} (hd : decode y.2.1 pc = .ok (.istore i, 2))  (hn : i < y.2.2.1) (hs : ls.set i (some (.int x)) = ls2) (k : J g y d mc ms Q h (pc + 2) ls2 (st)) : J g y d mc ms Q h pc ls ((.int x) :: st) := by
  intro p e R s m args below meth c H locs cells slots lsr X L
  subst hs
  refine lv_istore X.1.1 X.1.2.1 hd L.has hn rfl (fun lsr2 L2 => ?_)
  exact k p e R s m args below meth c H locs cells slots lsr2 X (L.set rfl L2)
theorem j_astore_n {a : Nat} {i : Nat} {j : Fin 4} {ls2 : List (Option Value)} (hd : decode y.2.1 pc = .ok (.astore_n j, 1)) (hi : (j : Nat) = i) (hn : i < y.2.2.1) (hs : ls.set i (some (.ref a)) = ls2) (k : J g y d mc ms Q h (pc + 1) ls2 (st)) : J g y d mc ms Q h pc ls ((.ref a) :: st) := by
  intro p e R s m args below meth c H locs cells slots lsr X L
  subst hs
  refine lv_astore_n X.1.1 X.1.2.1 hd hi L.has hn rfl (fun lsr2 L2 => ?_)
  exact k p e R s m args below meth c H locs cells slots lsr2 X (L.set rfl L2)
theorem j_iinc {i : Nat} {n : Int} {x v : Int32} {ls2 : List (Option Value)} (hd : decode y.2.1 pc = .ok (.iinc i n, 3)) (hl : ls[i]? = some (some (.int x))) (hv : x + Int32.ofInt n = v) (hn : i < y.2.2.1) (hs : ls.set i (some (.int v)) = ls2) (k : J g y d mc ms Q h (pc + 3) ls2 (st)) : J g y d mc ms Q h pc ls (st) := by
  intro p e R s m args below meth c H locs cells slots lsr X L
  subst hs
  obtain ⟨q, hq⟩ := List.getElem?_of_mem ((jlist_mem (g := g) ls 0 (i, .int x)).mpr ⟨i, .int x, hl, by rw [Nat.zero_add]; rfl⟩)
  refine lv_iinc X.1.1 X.1.2.1 hd L.has hq hv hn rfl (fun lsr2 L2 => ?_)
  exact k p e R s m args below meth c H locs cells slots lsr2 X (L.set (v := .int v) rfl L2)
theorem j_iadd {x z : Int32} (hd : decode y.2.1 pc = .ok (.iadd, 1))  (k : J g y d mc ms Q h (pc + 1) ls (.int (x + z) :: st)) : J g y d mc ms Q h pc ls (.int z :: .int x :: st) := by
  intro p e R s m args below meth c H locs cells slots lsr X L
  exact lv_iadd X.1.1 X.1.2.1 hd  (k p e R s m args below meth c H locs cells slots lsr X L)
theorem j_isub {x z : Int32} (hd : decode y.2.1 pc = .ok (.isub, 1))  (k : J g y d mc ms Q h (pc + 1) ls (.int (x - z) :: st)) : J g y d mc ms Q h pc ls (.int z :: .int x :: st) := by
  intro p e R s m args below meth c H locs cells slots lsr X L
  exact lv_isub X.1.1 X.1.2.1 hd  (k p e R s m args below meth c H locs cells slots lsr X L)
theorem j_imul {x z : Int32} (hd : decode y.2.1 pc = .ok (.imul, 1))  (k : J g y d mc ms Q h (pc + 1) ls (.int (x * z) :: st)) : J g y d mc ms Q h pc ls (.int z :: .int x :: st) := by
  intro p e R s m args below meth c H locs cells slots lsr X L
  exact lv_imul X.1.1 X.1.2.1 hd  (k p e R s m args below meth c H locs cells slots lsr X L)
theorem j_iand {x z : Int32} (hd : decode y.2.1 pc = .ok (.iand, 1))  (k : J g y d mc ms Q h (pc + 1) ls (.int (x &&& z) :: st)) : J g y d mc ms Q h pc ls (.int z :: .int x :: st) := by
  intro p e R s m args below meth c H locs cells slots lsr X L
  exact lv_iand X.1.1 X.1.2.1 hd  (k p e R s m args below meth c H locs cells slots lsr X L)
theorem j_ior {x z : Int32} (hd : decode y.2.1 pc = .ok (.ior, 1))  (k : J g y d mc ms Q h (pc + 1) ls (.int (x ||| z) :: st)) : J g y d mc ms Q h pc ls (.int z :: .int x :: st) := by
  intro p e R s m args below meth c H locs cells slots lsr X L
  exact lv_ior X.1.1 X.1.2.1 hd  (k p e R s m args below meth c H locs cells slots lsr X L)
theorem j_ixor {x z : Int32} (hd : decode y.2.1 pc = .ok (.ixor, 1))  (k : J g y d mc ms Q h (pc + 1) ls (.int (x ^^^ z) :: st)) : J g y d mc ms Q h pc ls (.int z :: .int x :: st) := by
  intro p e R s m args below meth c H locs cells slots lsr X L
  exact lv_ixor X.1.1 X.1.2.1 hd  (k p e R s m args below meth c H locs cells slots lsr X L)
theorem j_ishl {x z : Int32} (hd : decode y.2.1 pc = .ok (.ishl, 1))  (k : J g y d mc ms Q h (pc + 1) ls (.int (x <<< (z &&& 31)) :: st)) : J g y d mc ms Q h pc ls (.int z :: .int x :: st) := by
  intro p e R s m args below meth c H locs cells slots lsr X L
  exact lv_ishl X.1.1 X.1.2.1 hd  (k p e R s m args below meth c H locs cells slots lsr X L)
theorem j_ishr {x z : Int32} (hd : decode y.2.1 pc = .ok (.ishr, 1))  (k : J g y d mc ms Q h (pc + 1) ls (.int (x >>> (z &&& 31)) :: st)) : J g y d mc ms Q h pc ls (.int z :: .int x :: st) := by
  intro p e R s m args below meth c H locs cells slots lsr X L
  exact lv_ishr X.1.1 X.1.2.1 hd  (k p e R s m args below meth c H locs cells slots lsr X L)
theorem j_idiv {x z : Int32} (hd : decode y.2.1 pc = .ok (.idiv, 1)) (hne : ¬ z = 0) (k : J g y d mc ms Q h (pc + 1) ls (.int (x / z) :: st)) : J g y d mc ms Q h pc ls (.int z :: .int x :: st) := by
  intro p e R s m args below meth c H locs cells slots lsr X L
  exact lv_idiv X.1.1 X.1.2.1 hd hne (k p e R s m args below meth c H locs cells slots lsr X L)
theorem j_irem {x z : Int32} (hd : decode y.2.1 pc = .ok (.irem, 1)) (hne : ¬ z = 0) (k : J g y d mc ms Q h (pc + 1) ls (.int (x - x / z * z) :: st)) : J g y d mc ms Q h pc ls (.int z :: .int x :: st) := by
  intro p e R s m args below meth c H locs cells slots lsr X L
  exact lv_irem X.1.1 X.1.2.1 hd hne (k p e R s m args below meth c H locs cells slots lsr X L)
theorem j_ineg {x : Int32} (hd : decode y.2.1 pc = .ok (.ineg, 1)) (k : J g y d mc ms Q h (pc + 1) ls (.int (-x) :: st)) : J g y d mc ms Q h pc ls (.int x :: st) := by
  intro p e R s m args below meth c H locs cells slots lsr X L
  exact lv_ineg X.1.1 X.1.2.1 hd (k p e R s m args below meth c H locs cells slots lsr X L)
theorem j_iushr {x z v : Int32} (hd : decode y.2.1 pc = .ok (.iushr, 1)) (hv : (x.toUInt32 >>> (z.toUInt32 &&& Int32.toUInt32 31)).toInt32 = v) (k : J g y d mc ms Q h (pc + 1) ls (.int v :: st)) : J g y d mc ms Q h pc ls (.int z :: .int x :: st) := by
  intro p e R s m args below meth c H locs cells slots lsr X L
  exact lv_iushr X.1.1 X.1.2.1 hd hv (k p e R s m args below meth c H locs cells slots lsr X L)
theorem j_ladd {x z : Int64} (hd : decode y.2.1 pc = .ok (.ladd, 1)) (k : J g y d mc ms Q h (pc + 1) ls (.long (x + z) :: st)) : J g y d mc ms Q h pc ls (.long z :: .long x :: st) := by
  intro p e R s m args below meth c H locs cells slots lsr X L
  exact lv_ladd X.1.1 X.1.2.1 hd (k p e R s m args below meth c H locs cells slots lsr X L)
theorem j_lcmp {x z : Int64} (hd : decode y.2.1 pc = .ok (.lcmp, 1)) (k : J g y d mc ms Q h (pc + 1) ls (.int (lg_cmp x z) :: st)) : J g y d mc ms Q h pc ls (.long z :: .long x :: st) := by
  intro p e R s m args below meth c H locs cells slots lsr X L
  exact W.lcmp X.1.1 X.1.2.1 hd (k p e R s m args below meth c H locs cells slots lsr X L)
theorem j_dup {v : Value} (hd : decode y.2.1 pc = .ok (.dup, 1)) (hc : v.category = 1) (k : J g y d mc ms Q h (pc + 1) ls (v :: v :: st)) : J g y d mc ms Q h pc ls (v :: st) := by
  intro p e R s m args below meth c H locs cells slots lsr X L
  exact lv_dup X.1.1 X.1.2.1 hd (by rw [jv_cat]; exact hc) (k p e R s m args below meth c H locs cells slots lsr X L)
theorem j_dup2 {v w : Value} (hd : decode y.2.1 pc = .ok (.dup2, 1)) (hc : v.category = 1) (hc2 : w.category = 1) (k : J g y d mc ms Q h (pc + 1) ls (v :: w :: v :: w :: st)) : J g y d mc ms Q h pc ls (v :: w :: st) := by
  intro p e R s m args below meth c H locs cells slots lsr X L
  exact lv_dup2_11 X.1.1 X.1.2.1 hd (by rw [jv_cat]; exact hc) (by rw [jv_cat]; exact hc2) (k p e R s m args below meth c H locs cells slots lsr X L)
theorem j_if_eq {x : Int32} {off : Int} {tgt : Nat} (hd : decode y.2.1 pc = .ok (.ifCond .eq off, 3)) (ht : (pc : Int) + off = (tgt : Int)) (kt : x = 0 → J g y d mc ms Q h tgt ls st) (kf : ¬ x = 0 → J g y d mc ms Q h (pc + 3) ls st) : J g y d mc ms Q h pc ls (.int x :: st) := by
  intro p e R s m args below meth c H locs cells slots lsr X L
  exact lv_if_eq X.1.1 X.1.2.1 hd ht (fun q => kt q p e R s m args below meth c H locs cells slots lsr X L) (fun q => kf q p e R s m args below meth c H locs cells slots lsr X L)
theorem j_icmp_eq {x z : Int32} {off : Int} {tgt : Nat} (hd : decode y.2.1 pc = .ok (.if_icmp .eq off, 3)) (ht : (pc : Int) + off = (tgt : Int)) (kt : x = z → J g y d mc ms Q h tgt ls st) (kf : ¬ x = z → J g y d mc ms Q h (pc + 3) ls st) : J g y d mc ms Q h pc ls (.int z :: .int x :: st) := by
  intro p e R s m args below meth c H locs cells slots lsr X L
  exact lv_icmp_eq X.1.1 X.1.2.1 hd ht (fun q => kt q p e R s m args below meth c H locs cells slots lsr X L) (fun q => kf q p e R s m args below meth c H locs cells slots lsr X L)
theorem j_if_ne {x : Int32} {off : Int} {tgt : Nat} (hd : decode y.2.1 pc = .ok (.ifCond .ne off, 3)) (ht : (pc : Int) + off = (tgt : Int)) (kt : ¬ x = 0 → J g y d mc ms Q h tgt ls st) (kf : x = 0 → J g y d mc ms Q h (pc + 3) ls st) : J g y d mc ms Q h pc ls (.int x :: st) := by
  intro p e R s m args below meth c H locs cells slots lsr X L
  exact lv_if_ne X.1.1 X.1.2.1 hd ht (fun q => kt q p e R s m args below meth c H locs cells slots lsr X L) (fun q => kf q p e R s m args below meth c H locs cells slots lsr X L)
theorem j_icmp_ne {x z : Int32} {off : Int} {tgt : Nat} (hd : decode y.2.1 pc = .ok (.if_icmp .ne off, 3)) (ht : (pc : Int) + off = (tgt : Int)) (kt : ¬ x = z → J g y d mc ms Q h tgt ls st) (kf : x = z → J g y d mc ms Q h (pc + 3) ls st) : J g y d mc ms Q h pc ls (.int z :: .int x :: st) := by
  intro p e R s m args below meth c H locs cells slots lsr X L
  exact lv_icmp_ne X.1.1 X.1.2.1 hd ht (fun q => kt q p e R s m args below meth c H locs cells slots lsr X L) (fun q => kf q p e R s m args below meth c H locs cells slots lsr X L)
theorem j_if_lt {x : Int32} {off : Int} {tgt : Nat} (hd : decode y.2.1 pc = .ok (.ifCond .lt off, 3)) (ht : (pc : Int) + off = (tgt : Int)) (kt : x < 0 → J g y d mc ms Q h tgt ls st) (kf : ¬ x < 0 → J g y d mc ms Q h (pc + 3) ls st) : J g y d mc ms Q h pc ls (.int x :: st) := by
  intro p e R s m args below meth c H locs cells slots lsr X L
  exact lv_if_lt X.1.1 X.1.2.1 hd ht (fun q => kt q p e R s m args below meth c H locs cells slots lsr X L) (fun q => kf q p e R s m args below meth c H locs cells slots lsr X L)
theorem j_icmp_lt {x z : Int32} {off : Int} {tgt : Nat} (hd : decode y.2.1 pc = .ok (.if_icmp .lt off, 3)) (ht : (pc : Int) + off = (tgt : Int)) (kt : x < z → J g y d mc ms Q h tgt ls st) (kf : ¬ x < z → J g y d mc ms Q h (pc + 3) ls st) : J g y d mc ms Q h pc ls (.int z :: .int x :: st) := by
  intro p e R s m args below meth c H locs cells slots lsr X L
  exact lv_icmp_lt X.1.1 X.1.2.1 hd ht (fun q => kt q p e R s m args below meth c H locs cells slots lsr X L) (fun q => kf q p e R s m args below meth c H locs cells slots lsr X L)
theorem j_if_ge {x : Int32} {off : Int} {tgt : Nat} (hd : decode y.2.1 pc = .ok (.ifCond .ge off, 3)) (ht : (pc : Int) + off = (tgt : Int)) (kt : 0 ≤ x → J g y d mc ms Q h tgt ls st) (kf : ¬ 0 ≤ x → J g y d mc ms Q h (pc + 3) ls st) : J g y d mc ms Q h pc ls (.int x :: st) := by
  intro p e R s m args below meth c H locs cells slots lsr X L
  exact lv_if_ge X.1.1 X.1.2.1 hd ht (fun q => kt q p e R s m args below meth c H locs cells slots lsr X L) (fun q => kf q p e R s m args below meth c H locs cells slots lsr X L)
theorem j_icmp_ge {x z : Int32} {off : Int} {tgt : Nat} (hd : decode y.2.1 pc = .ok (.if_icmp .ge off, 3)) (ht : (pc : Int) + off = (tgt : Int)) (kt : z ≤ x → J g y d mc ms Q h tgt ls st) (kf : ¬ z ≤ x → J g y d mc ms Q h (pc + 3) ls st) : J g y d mc ms Q h pc ls (.int z :: .int x :: st) := by
  intro p e R s m args below meth c H locs cells slots lsr X L
  exact lv_icmp_ge X.1.1 X.1.2.1 hd ht (fun q => kt q p e R s m args below meth c H locs cells slots lsr X L) (fun q => kf q p e R s m args below meth c H locs cells slots lsr X L)
theorem j_if_gt {x : Int32} {off : Int} {tgt : Nat} (hd : decode y.2.1 pc = .ok (.ifCond .gt off, 3)) (ht : (pc : Int) + off = (tgt : Int)) (kt : 0 < x → J g y d mc ms Q h tgt ls st) (kf : ¬ 0 < x → J g y d mc ms Q h (pc + 3) ls st) : J g y d mc ms Q h pc ls (.int x :: st) := by
  intro p e R s m args below meth c H locs cells slots lsr X L
  exact lv_if_gt X.1.1 X.1.2.1 hd ht (fun q => kt q p e R s m args below meth c H locs cells slots lsr X L) (fun q => kf q p e R s m args below meth c H locs cells slots lsr X L)
theorem j_icmp_gt {x z : Int32} {off : Int} {tgt : Nat} (hd : decode y.2.1 pc = .ok (.if_icmp .gt off, 3)) (ht : (pc : Int) + off = (tgt : Int)) (kt : z < x → J g y d mc ms Q h tgt ls st) (kf : ¬ z < x → J g y d mc ms Q h (pc + 3) ls st) : J g y d mc ms Q h pc ls (.int z :: .int x :: st) := by
  intro p e R s m args below meth c H locs cells slots lsr X L
  exact lv_icmp_gt X.1.1 X.1.2.1 hd ht (fun q => kt q p e R s m args below meth c H locs cells slots lsr X L) (fun q => kf q p e R s m args below meth c H locs cells slots lsr X L)
theorem j_if_le {x : Int32} {off : Int} {tgt : Nat} (hd : decode y.2.1 pc = .ok (.ifCond .le off, 3)) (ht : (pc : Int) + off = (tgt : Int)) (kt : x ≤ 0 → J g y d mc ms Q h tgt ls st) (kf : ¬ x ≤ 0 → J g y d mc ms Q h (pc + 3) ls st) : J g y d mc ms Q h pc ls (.int x :: st) := by
  intro p e R s m args below meth c H locs cells slots lsr X L
  exact lv_if_le X.1.1 X.1.2.1 hd ht (fun q => kt q p e R s m args below meth c H locs cells slots lsr X L) (fun q => kf q p e R s m args below meth c H locs cells slots lsr X L)
theorem j_icmp_le {x z : Int32} {off : Int} {tgt : Nat} (hd : decode y.2.1 pc = .ok (.if_icmp .le off, 3)) (ht : (pc : Int) + off = (tgt : Int)) (kt : x ≤ z → J g y d mc ms Q h tgt ls st) (kf : ¬ x ≤ z → J g y d mc ms Q h (pc + 3) ls st) : J g y d mc ms Q h pc ls (.int z :: .int x :: st) := by
  intro p e R s m args below meth c H locs cells slots lsr X L
  exact lv_icmp_le X.1.1 X.1.2.1 hd ht (fun q => kt q p e R s m args below meth c H locs cells slots lsr X L) (fun q => kf q p e R s m args below meth c H locs cells slots lsr X L)
theorem j_goto {off : Int} {tgt : Nat} (hd : decode y.2.1 pc = .ok (.goto off, 3)) (ht : (pc : Int) + off = (tgt : Int)) (k : J g y d mc ms Q h (tgt) ls (st)) : J g y d mc ms Q h pc ls (st) := by
  intro p e R s m args below meth c H locs cells slots lsr X L
  exact lv_goto X.1.1 X.1.2.1 hd ht (k p e R s m args below meth c H locs cells slots lsr X L)
theorem j_ifnull {a : Nat} {off : Int} (hd : decode y.2.1 pc = .ok (.ifnull off, 3)) (k : J g y d mc ms Q h (pc + 3) ls (st)) : J g y d mc ms Q h pc ls (.ref a :: st) := by
  intro p e R s m args below meth c H locs cells slots lsr X L
  exact lv_ifnull X.1.1 X.1.2.1 hd (k p e R s m args below meth c H locs cells slots lsr X L)
theorem j_lookup {dflt : Int} {ps : Array (Int × Int)} {len : Nat} {x : Int32} {off : Int} {tgt : Nat} (hd : decode y.2.1 pc = .ok (.lookupswitch dflt ps, len)) (hp : (ps.toList.zip (ps.toList.drop 1)).all (fun (a, next) => a.1 < next.1) = true) (ho : Op.lookupswitch.offset ps.toList dflt x.toInt = off) (ht : (pc : Int) + off = (tgt : Int)) (k : J g y d mc ms Q h (tgt) ls (st)) : J g y d mc ms Q h pc ls (.int x :: st) := by
  intro p e R s m args below meth c H locs cells slots lsr X L
  exact lv_lookup X.1.1 X.1.2.1 hd hp ho ht (k p e R s m args below meth c H locs cells slots lsr X L)
theorem j_tableOut {dflt lo hi : Int} {offs : Array Int} {len : Nat} {x : Int32} {tgt : Nat} (hd : decode y.2.1 pc = .ok (.tableswitch dflt lo hi offs, len)) (hx : x.toInt < lo ∨ hi < x.toInt) (ht : (pc : Int) + dflt = (tgt : Int)) (k : J g y d mc ms Q h (tgt) ls (st)) : J g y d mc ms Q h pc ls (.int x :: st) := by
  intro p e R s m args below meth c H locs cells slots lsr X L
  exact lv_tableOut X.1.1 X.1.2.1 hd hx ht (k p e R s m args below meth c H locs cells slots lsr X L)
theorem j_tableIn {dflt lo hi : Int} {offs : Array Int} {len : Nat} {x : Int32} {off : Int} {tgt : Nat} (hd : decode y.2.1 pc = .ok (.tableswitch dflt lo hi offs, len)) (h1 : ¬ x.toInt < lo) (h2 : ¬ hi < x.toInt) (ho : offs[(x.toInt - lo).toNat]? = some off) (ht : (pc : Int) + off = (tgt : Int)) (k : J g y d mc ms Q h (tgt) ls (st)) : J g y d mc ms Q h pc ls (.int x :: st) := by
  intro p e R s m args below meth c H locs cells slots lsr X L
  exact lv_tableIn X.1.1 X.1.2.1 hd h1 h2 ho ht (k p e R s m args below meth c H locs cells slots lsr X L)
end
section
variable {g : GG} {y : MI} {d mc ms : Nat} {Q : Option Value → List AC → Prop} {h : List AC} {pc : Nat} {ls : List (Option Value)} {st : List Value}
theorem jZ.of {below : List Frame} {args : Array Value} {s : State} {kc ks : Nat} {r : Option Value} {t : State} (hq : Q r h) (b : MQ below (fun _ st o u => o = .returned (r.map (jv g)) ∧ jH g u.heap h ∧ va_F (jA g) st u) args s kc ks (jA g) t) : jZ g below args s kc ks Q t := ⟨r, h, hq, b⟩
theorem j_ireturn {x : Int32} (hd : decode y.2.1 pc = .ok (.ireturn, 1)) (hr : y.2.2.2 = some .int) (hq : Q (some (.int x)) h) : J g y d mc ms Q h pc ls [.int x] := by
  intro p e R s m args below meth c H locs cells slots lsr X L
  have hlocks := X.1.2.2.2.2.1
  refine W.widen (k := cells + mc) (n := slots + ms) (Nat.le_add_right _ _) (Nat.le_add_right _ _) ?_
  intro T hT S
  obtain ⟨t, a, b⟩ := W.iret (v := x) (Qc := fun _ st o u => o = .returned ((some (Value.int x)).map (jv g)) ∧ jH g u.heap h ∧ va_F (jA g) st u) (free := jA g) X.1.1 X.1.2.1 (X.1.2.2.2.1.trans hr) (fun t ht hW => ⟨rfl, by rw [ht]; exact X.2.2.1, X.2.2.2.F ht⟩) X.2.2.2.2.2 hd hlocks T hT S
  exact ⟨t, a, jZ.of hq b⟩
theorem j_zreturn {x : Bool} (hd : decode y.2.1 pc = .ok (.ireturn, 1)) (hr : y.2.2.2 = some .boolean) {v : Int32} (hv : v = (match x with | true => 1 | false => 0)) (hq : Q (some (.int v)) h) : J g y d mc ms Q h pc ls [.int v] := by
  intro p e R s m args below meth c H locs cells slots lsr X L
  have hlocks := X.1.2.2.2.2.1
  refine W.widen (k := cells + mc) (n := slots + ms) (Nat.le_add_right _ _) (Nat.le_add_right _ _) ?_
  intro T hT S
  have hn : narrow .boolean (.int v) = .int v := by subst hv; cases x <;> rfl
  obtain ⟨t, a, b⟩ := W.zret (v := v) (Qc := fun _ st o u => o = .returned ((some (Value.int v)).map (jv g)) ∧ jH g u.heap h ∧ va_F (jA g) st u) (free := jA g) X.1.1 X.1.2.1 (X.1.2.2.2.1.trans hr) hn (fun t ht hW => ⟨rfl, by rw [ht]; exact X.2.2.1, X.2.2.2.F ht⟩) X.2.2.2.2.2 hd hlocks T hT S
  exact ⟨t, a, jZ.of hq b⟩
theorem j_lreturn {x : Int64} (hd : decode y.2.1 pc = .ok (.lreturn, 1)) (hr : y.2.2.2 = some .long) (hq : Q (some (.long x)) h) : J g y d mc ms Q h pc ls [.long x] := by
  intro p e R s m args below meth c H locs cells slots lsr X L
  have hlocks := X.1.2.2.2.2.1
  refine W.widen (k := cells + mc) (n := slots + ms) (Nat.le_add_right _ _) (Nat.le_add_right _ _) ?_
  intro T hT S
  obtain ⟨t, a, b⟩ := W.lret (v := x) (Qc := fun _ st o u => o = .returned ((some (Value.long x)).map (jv g)) ∧ jH g u.heap h ∧ va_F (jA g) st u) (free := jA g) X.1.1 X.1.2.1 (X.1.2.2.2.1.trans hr) (fun t ht hW => ⟨rfl, by rw [ht]; exact X.2.2.1, X.2.2.2.F ht⟩) X.2.2.2.2.2 hd hlocks T hT S
  exact ⟨t, a, jZ.of hq b⟩
theorem j_return (hd : decode y.2.1 pc = .ok (.return_, 1)) (hr : y.2.2.2 = none) (hq : Q none h) : J g y d mc ms Q h pc ls [] := by
  intro p e R s m args below meth c H locs cells slots lsr X L
  have hlocks := X.1.2.2.2.2.1
  refine W.widen (k := cells + mc) (n := slots + ms) (Nat.le_add_right _ _) (Nat.le_add_right _ _) ?_
  intro T hT S
  obtain ⟨t, a, b⟩ := W.vret (Qc := fun _ st o u => o = .returned ((none : Option Value).map (jv g)) ∧ jH g u.heap h ∧ va_F (jA g) st u) (free := jA g) X.1.1 X.1.2.1 (X.1.2.2.2.1.trans hr) (fun t ht hW => ⟨rfl, by rw [ht]; exact X.2.2.1, X.2.2.2.F ht⟩) X.2.2.2.2.2 hd hlocks T hT S
  exact ⟨t, a, jZ.of hq b⟩
end

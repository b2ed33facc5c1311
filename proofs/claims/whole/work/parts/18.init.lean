/-! the class's constructors -/
section
variable {g : GG} {h : List AC} {Q : Option Value → List AC → Prop}
def dfX0 : List Value := [.int 0, .int 0, .null]
theorem jdef_X0 : jdef 0 dfX0 := fun q hq => by
  cases hq
  refine ⟨rfl, fun k hk => ?_⟩
  match k, hk with
  | 0, _ => exact ⟨.int, by decide +kernel, _, rfl, rfl, fun _ => rfl⟩
  | 1, _ => exact ⟨.int, by decide +kernel, _, rfl, rfl, fun _ => rfl⟩
  | 2, _ => exact ⟨(.object "LychWeights$Shelf"), by decide +kernel, _, rfl, rfl, fun _ => rfl⟩
  | k + 3, hk => exact absurd (show k + 3 < 3 from hk) (by omega)
def dfX1 : List Value := [.int 0, .int 0, .int 0, .int 0, .int 0, .int 0, .null, .null, .null, .null, .null]
theorem jdef_X1 : jdef 1 dfX1 := fun q hq => by
  cases hq
  refine ⟨rfl, fun k hk => ?_⟩
  match k, hk with
  | 0, _ => exact ⟨.int, by decide +kernel, _, rfl, rfl, fun _ => rfl⟩
  | 1, _ => exact ⟨.int, by decide +kernel, _, rfl, rfl, fun _ => rfl⟩
  | 2, _ => exact ⟨.int, by decide +kernel, _, rfl, rfl, fun _ => rfl⟩
  | 3, _ => exact ⟨.int, by decide +kernel, _, rfl, rfl, fun _ => rfl⟩
  | 4, _ => exact ⟨.int, by decide +kernel, _, rfl, rfl, fun _ => rfl⟩
  | 5, _ => exact ⟨.int, by decide +kernel, _, rfl, rfl, fun _ => rfl⟩
  | 6, _ => exact ⟨(.object "LychWeights$Row"), by decide +kernel, _, rfl, rfl, fun _ => rfl⟩
  | 7, _ => exact ⟨(.object "LychWeights$Row"), by decide +kernel, _, rfl, rfl, fun _ => rfl⟩
  | 8, _ => exact ⟨(.object "LychWeights$Row"), by decide +kernel, _, rfl, rfl, fun _ => rfl⟩
  | 9, _ => exact ⟨(.object "LychWeights$Row"), by decide +kernel, _, rfl, rfl, fun _ => rfl⟩
  | 10, _ => exact ⟨(.object "LychWeights$Row"), by decide +kernel, _, rfl, rfl, fun _ => rfl⟩
  | k + 11, hk => exact absurd (show k + 11 < 11 from hk) (by omega)
def dfX2 : List Value := [.null, .int 0, .int 0, .int 0, .int 0, .int 0, .int 0, .int 0, .int 0]
theorem jdef_X2 : jdef 2 dfX2 := fun q hq => by
  cases hq
  refine ⟨rfl, fun k hk => ?_⟩
  match k, hk with
  | 0, _ => exact ⟨(.object "LychWeights$Row"), by decide +kernel, _, rfl, rfl, fun _ => rfl⟩
  | 1, _ => exact ⟨.int, by decide +kernel, _, rfl, rfl, fun _ => rfl⟩
  | 2, _ => exact ⟨.int, by decide +kernel, _, rfl, rfl, fun _ => rfl⟩
  | 3, _ => exact ⟨.int, by decide +kernel, _, rfl, rfl, fun _ => rfl⟩
  | 4, _ => exact ⟨.int, by decide +kernel, _, rfl, rfl, fun _ => rfl⟩
  | 5, _ => exact ⟨.int, by decide +kernel, _, rfl, rfl, fun _ => rfl⟩
  | 6, _ => exact ⟨.boolean, by decide +kernel, _, rfl, rfl, fun _ => rfl⟩
  | 7, _ => exact ⟨.boolean, by decide +kernel, _, rfl, rfl, fun _ => rfl⟩
  | 8, _ => exact ⟨.boolean, by decide +kernel, _, rfl, rfl, fun _ => rfl⟩
  | k + 9, hk => exact absurd (show k + 9 < 9 from hk) (by omega)
def dfX4 : List Value := [.int 0, .int 0, .int 0, .null, .null, .null]
theorem jdef_X4 : jdef 4 dfX4 := fun q hq => by
  cases hq
  refine ⟨rfl, fun k hk => ?_⟩
  match k, hk with
  | 0, _ => exact ⟨.int, by decide +kernel, _, rfl, rfl, fun _ => rfl⟩
  | 1, _ => exact ⟨.int, by decide +kernel, _, rfl, rfl, fun _ => rfl⟩
  | 2, _ => exact ⟨.int, by decide +kernel, _, rfl, rfl, fun _ => rfl⟩
  | 3, _ => exact ⟨(.object "LychWeights$Row"), by decide +kernel, _, rfl, rfl, fun _ => rfl⟩
  | 4, _ => exact ⟨(.object "LychWeights$Row"), by decide +kernel, _, rfl, rfl, fun _ => rfl⟩
  | 5, _ => exact ⟨(.object "LychWeights$Row"), by decide +kernel, _, rfl, rfl, fun _ => rfl⟩
  | k + 6, hk => exact absurd (show k + 6 < 6 from hk) (by omega)
def dfX5 : List Value := [.null]
theorem jdef_X5 : jdef 5 dfX5 := fun q hq => by
  cases hq
  refine ⟨rfl, fun k hk => ?_⟩
  match k, hk with
  | 0, _ => exact ⟨(.array (.object "LychWeights$Scene")), by decide +kernel, _, rfl, rfl, fun _ => rfl⟩
  | k + 1, hk => exact absurd (show k + 1 < 1 from hk) (by omega)
def dfX6 : List Value := [.null, .int 0, .null, .null, .null, .null, .null, .null, .null, .int 0, .null, .null, .int 0, .long 0]
theorem jdef_X6 : jdef 6 dfX6 := fun q hq => by
  cases hq
  refine ⟨rfl, fun k hk => ?_⟩
  match k, hk with
  | 0, _ => exact ⟨(.object "LychWeights$Row"), by decide +kernel, _, rfl, rfl, fun _ => rfl⟩
  | 1, _ => exact ⟨.int, by decide +kernel, _, rfl, rfl, fun _ => rfl⟩
  | 2, _ => exact ⟨(.object "LychWeights$Reader"), by decide +kernel, _, rfl, rfl, fun _ => rfl⟩
  | 3, _ => exact ⟨(.object "LychWeights$Parish"), by decide +kernel, _, rfl, rfl, fun _ => rfl⟩
  | 4, _ => exact ⟨(.object "LychWeights$Parish"), by decide +kernel, _, rfl, rfl, fun _ => rfl⟩
  | 5, _ => exact ⟨(.object "LychWeights$Scene"), by decide +kernel, _, rfl, rfl, fun _ => rfl⟩
  | 6, _ => exact ⟨(.object "LychWeights$History"), by decide +kernel, _, rfl, rfl, fun _ => rfl⟩
  | 7, _ => exact ⟨(.object "LychWeights$Row"), by decide +kernel, _, rfl, rfl, fun _ => rfl⟩
  | 8, _ => exact ⟨(.object "LychWeights$Shelf"), by decide +kernel, _, rfl, rfl, fun _ => rfl⟩
  | 9, _ => exact ⟨.int, by decide +kernel, _, rfl, rfl, fun _ => rfl⟩
  | 10, _ => exact ⟨(.object "LychWeights$Row"), by decide +kernel, _, rfl, rfl, fun _ => rfl⟩
  | 11, _ => exact ⟨(.object "LychWeights$Row"), by decide +kernel, _, rfl, rfl, fun _ => rfl⟩
  | 12, _ => exact ⟨.int, by decide +kernel, _, rfl, rfl, fun _ => rfl⟩
  | 13, _ => exact ⟨.long, by decide +kernel, _, rfl, rfl, fun _ => rfl⟩
  | k + 14, hk => exact absurd (show k + 14 < 14 from hk) (by omega)
def dfX7 : List Value := [.int 0, .null, .int 0, .null, .int 0, .null, .int 0, .int 0, .null, .null, .int 0, .null, .null, .int 0, .null, .long 0, .null, .int 0, .int 0, .int 0, .int 0, .int 0, .int 0, .int 0, .int 0, .null, .int 0, .null, .null, .null, .int 0, .null, .int 0, .int 0, .null, .null, .null]
theorem jdef_X7 : jdef 7 dfX7 := fun q hq => by
  cases hq
  refine ⟨rfl, fun k hk => ?_⟩
  match k, hk with
  | 0, _ => exact ⟨.int, by decide +kernel, _, rfl, rfl, fun _ => rfl⟩
  | 1, _ => exact ⟨(.array .int), by decide +kernel, _, rfl, rfl, fun _ => rfl⟩
  | 2, _ => exact ⟨.int, by decide +kernel, _, rfl, rfl, fun _ => rfl⟩
  | 3, _ => exact ⟨(.array .int), by decide +kernel, _, rfl, rfl, fun _ => rfl⟩
  | 4, _ => exact ⟨.int, by decide +kernel, _, rfl, rfl, fun _ => rfl⟩
  | 5, _ => exact ⟨(.array .int), by decide +kernel, _, rfl, rfl, fun _ => rfl⟩
  | 6, _ => exact ⟨.int, by decide +kernel, _, rfl, rfl, fun _ => rfl⟩
  | 7, _ => exact ⟨.int, by decide +kernel, _, rfl, rfl, fun _ => rfl⟩
  | 8, _ => exact ⟨(.array .int), by decide +kernel, _, rfl, rfl, fun _ => rfl⟩
  | 9, _ => exact ⟨(.array .int), by decide +kernel, _, rfl, rfl, fun _ => rfl⟩
  | 10, _ => exact ⟨.int, by decide +kernel, _, rfl, rfl, fun _ => rfl⟩
  | 11, _ => exact ⟨(.array .int), by decide +kernel, _, rfl, rfl, fun _ => rfl⟩
  | 12, _ => exact ⟨(.array .boolean), by decide +kernel, _, rfl, rfl, fun _ => rfl⟩
  | 13, _ => exact ⟨.int, by decide +kernel, _, rfl, rfl, fun _ => rfl⟩
  | 14, _ => exact ⟨(.array .int), by decide +kernel, _, rfl, rfl, fun _ => rfl⟩
  | 15, _ => exact ⟨.long, by decide +kernel, _, rfl, rfl, fun _ => rfl⟩
  | 16, _ => exact ⟨(.array .int), by decide +kernel, _, rfl, rfl, fun _ => rfl⟩
  | 17, _ => exact ⟨.int, by decide +kernel, _, rfl, rfl, fun _ => rfl⟩
  | 18, _ => exact ⟨.int, by decide +kernel, _, rfl, rfl, fun _ => rfl⟩
  | 19, _ => exact ⟨.int, by decide +kernel, _, rfl, rfl, fun _ => rfl⟩
  | 20, _ => exact ⟨.int, by decide +kernel, _, rfl, rfl, fun _ => rfl⟩
  | 21, _ => exact ⟨.int, by decide +kernel, _, rfl, rfl, fun _ => rfl⟩
  | 22, _ => exact ⟨.boolean, by decide +kernel, _, rfl, rfl, fun _ => rfl⟩
  | 23, _ => exact ⟨.int, by decide +kernel, _, rfl, rfl, fun _ => rfl⟩
  | 24, _ => exact ⟨.int, by decide +kernel, _, rfl, rfl, fun _ => rfl⟩
  | 25, _ => exact ⟨(.array .int), by decide +kernel, _, rfl, rfl, fun _ => rfl⟩
  | 26, _ => exact ⟨.int, by decide +kernel, _, rfl, rfl, fun _ => rfl⟩
  | 27, _ => exact ⟨(.array .int), by decide +kernel, _, rfl, rfl, fun _ => rfl⟩
  | 28, _ => exact ⟨(.array .int), by decide +kernel, _, rfl, rfl, fun _ => rfl⟩
  | 29, _ => exact ⟨(.array .int), by decide +kernel, _, rfl, rfl, fun _ => rfl⟩
  | 30, _ => exact ⟨.int, by decide +kernel, _, rfl, rfl, fun _ => rfl⟩
  | 31, _ => exact ⟨(.array .int), by decide +kernel, _, rfl, rfl, fun _ => rfl⟩
  | 32, _ => exact ⟨.int, by decide +kernel, _, rfl, rfl, fun _ => rfl⟩
  | 33, _ => exact ⟨.int, by decide +kernel, _, rfl, rfl, fun _ => rfl⟩
  | 34, _ => exact ⟨(.array .int), by decide +kernel, _, rfl, rfl, fun _ => rfl⟩
  | 35, _ => exact ⟨(.array .int), by decide +kernel, _, rfl, rfl, fun _ => rfl⟩
  | 36, _ => exact ⟨(.array .int), by decide +kernel, _, rfl, rfl, fun _ => rfl⟩
  | k + 37, hk => exact absurd (show k + 37 < 37 from hk) (by omega)
def zF : Fn := fun _ => 0
def zS : ScV := (0, 0, 0, zF, zF, zF)
def pV : ParV := (0, 0, 0, 0, 80, 2, zF, zF, zF, zF, zF)
theorem apL {l t : List AC} {a k : Nat} {c : AC} (hl : l.length = a) (hk : t[k]? = some c) : (l ++ t)[a + k]? = some c := by
  rw [List.getElem?_append_right (by omega), hl, Nat.add_sub_cancel_left]
  exact hk
theorem apLs {l t t2 : List AC} {a k : Nat} {c : AC} (hl : l.length = a) (hk : t.set k c = t2) : (l ++ t).set (a + k) c = l ++ t2 := by
  rw [List.set_append_right _ _ (by omega), hl, Nat.add_sub_cancel_left, hk]
section
variable {y : MI} {d mc ms pc idx : Nat} {ls : List (Option Value)} {st : List Value}
theorem j_newL {l t t2 : List AC} {a n ci N : Nat} {fs : List Value} (hl : l.length = a) (hd : decode y.2.1 pc = .ok (.new idx, 3)) (hnl : jnl y.1.cls idx ci N) (hf : jdef ci fs) {mc1 ms1 : Nat} (hmc : mc = mc1 + 1) (hms : ms = ms1 + N) (ht : t ++ [(ci, fs)] = t2) (hn : a + t.length = n) (k : J g y d mc1 ms1 Q (l ++ t2) (pc + 3) ls (.ref n :: st)) : J g y d mc ms Q (l ++ t) pc ls st := by
  refine j_new hd hnl hf hmc hms ?_
  subst ht
  subst hn
  rw [List.append_assoc, List.length_append, hl]
  exact k
theorem c_rowInitL {l t t2 : List AC} {a k n : Nat} (hl : l.length = a) (hn : n < 1000) (hk : t[k]? = some (3, [.null])) (ht : (t ++ [ia n zF]).set k (3, [.ref (a + t.length)]) = t2) : C g 1 1 n mX3_init [.ref (a + k), .int (nI n)] (l ++ t) (fun r h' => r = none ∧ h' = l ++ t2) := by
  have z := c_rowInit (g := g) hn (apL hl hk)
  have e : ((l ++ t) ++ [(8, iv n (fun _ => 0))]).set (a + k) (3, [.ref (l ++ t).length]) = l ++ t2 := by
    rw [List.append_assoc, List.length_append, hl]
    exact apLs hl ht
  rw [e] at z
  exact z
end
set_option maxRecDepth 20000 in
set_option maxHeartbeats 200000 in
theorem x_scInit {l : List AC} {a : Nat} (hl : l.length = a) : C g 2 6 21 mX4_init [.ref a] (l ++ [(4, dfX4)]) (fun r h' => r = none ∧ h' = l ++ scL a zS) := by
  refine C.of (by decide +kernel) (by simp [Value.category]) (Nat.le_of_ble_eq_true rfl) ?_
  change J g mX4_init 2 6 21 _ (l ++ [(4, dfX4)]) 0 [some (.ref a)] []
  refine j_aload_n (pc := 0) dX4_init_0 rfl ?_
  refine j_objinit (pc := 1) dX4_init_1 ol_X4_3 ol_im ol_co (by omega) (Nat.le_of_ble_eq_true rfl) ?_
  refine j_aload_n (pc := 4) dX4_init_4 rfl ?_
  refine j_newL (pc := 5) hl dX4_init_5 nl_X4_9 jdef_X3 rfl rfl (t2 := [(4, [.int 0, .int 0, .int 0, .null, .null, .null]), (3, [.null])]) rfl (n := a + 1) rfl ?_
  refine j_dup (pc := 8) dX4_init_8 rfl ?_
  refine j_bipush (pc := 9) dX4_init_9 kb_6 ?_
  refine j_i1 (pc := 11) dX4_init_11 mc_X3_init rfl rfl ml_X4_11 im_X3_init (by omega) (c_rowInitL (n := 6) (k := 1) (t2 := [(4, [.int 0, .int 0, .int 0, .null, .null, .null]), rowC (a + 1), ia 6 zF]) hl (by decide) rfl rfl) (Nat.le_of_ble_eq_true rfl) rfl rfl ?_
  refine j_putF (pc := 14) dX4_init_14 fl_X4_14 rfl (fun q e => by cases e; rfl) (jfit_r _ _) (apL (k := 0) hl rfl) (apLs (k := 0) (t2 := [(4, [.int 0, .int 0, .int 0, .ref (a + 1), .null, .null]), rowC (a + 1), ia 6 zF]) hl rfl) ?_
  refine j_aload_n (pc := 17) dX4_init_17 rfl ?_
  refine j_newL (pc := 18) hl dX4_init_18 nl_X4_9 jdef_X3 rfl rfl (t2 := [(4, [.int 0, .int 0, .int 0, .ref (a + 1), .null, .null]), rowC (a + 1), ia 6 zF, (3, [.null])]) rfl (n := a + 3) rfl ?_
  refine j_dup (pc := 21) dX4_init_21 rfl ?_
  refine j_bipush (pc := 22) dX4_init_22 kb_6 ?_
  refine j_i1 (pc := 24) dX4_init_24 mc_X3_init rfl rfl ml_X4_11 im_X3_init (by omega) (c_rowInitL (n := 6) (k := 3) (t2 := [(4, [.int 0, .int 0, .int 0, .ref (a + 1), .null, .null]), rowC (a + 1), ia 6 zF, rowC (a + 3), ia 6 zF]) hl (by decide) rfl rfl) (Nat.le_of_ble_eq_true rfl) rfl rfl ?_
  refine j_putF (pc := 27) dX4_init_27 fl_X4_20 rfl (fun q e => by cases e; rfl) (jfit_r _ _) (apL (k := 0) hl rfl) (apLs (k := 0) (t2 := [(4, [.int 0, .int 0, .int 0, .ref (a + 1), .ref (a + 3), .null]), rowC (a + 1), ia 6 zF, rowC (a + 3), ia 6 zF]) hl rfl) ?_
  refine j_aload_n (pc := 30) dX4_init_30 rfl ?_
  refine j_newL (pc := 31) hl dX4_init_31 nl_X4_9 jdef_X3 rfl rfl (t2 := [(4, [.int 0, .int 0, .int 0, .ref (a + 1), .ref (a + 3), .null]), rowC (a + 1), ia 6 zF, rowC (a + 3), ia 6 zF, (3, [.null])]) rfl (n := a + 5) rfl ?_
  refine j_dup (pc := 34) dX4_init_34 rfl ?_
  refine j_bipush (pc := 35) dX4_init_35 kb_6 ?_
  refine j_i1 (pc := 37) dX4_init_37 mc_X3_init rfl rfl ml_X4_11 im_X3_init (by omega) (c_rowInitL (n := 6) (k := 5) (t2 := [(4, [.int 0, .int 0, .int 0, .ref (a + 1), .ref (a + 3), .null]), rowC (a + 1), ia 6 zF, rowC (a + 3), ia 6 zF, rowC (a + 5), ia 6 zF]) hl (by decide) rfl rfl) (Nat.le_of_ble_eq_true rfl) rfl rfl ?_
  refine j_putF (pc := 40) dX4_init_40 fl_X4_23 rfl (fun q e => by cases e; rfl) (jfit_r _ _) (apL (k := 0) hl rfl) (apLs (k := 0) (t2 := [(4, [.int 0, .int 0, .int 0, .ref (a + 1), .ref (a + 3), .ref (a + 5)]), rowC (a + 1), ia 6 zF, rowC (a + 3), ia 6 zF, rowC (a + 5), ia 6 zF]) hl rfl) ?_
  refine j_return (pc := 43) dX4_init_43 rfl ?_
  exact ⟨rfl, rfl⟩

set_option maxRecDepth 20000 in
set_option maxHeartbeats 200000 in
theorem x_paInit {l : List AC} {a : Nat} (hl : l.length = a) : C g 2 10 35 mX1_init [.ref a] (l ++ [(1, dfX1)]) (fun r h' => r = none ∧ h' = l ++ paL a pV) := by
  refine C.of (by decide +kernel) (by simp [Value.category]) (Nat.le_of_ble_eq_true rfl) ?_
  change J g mX1_init 2 10 35 _ (l ++ [(1, dfX1)]) 0 [some (.ref a)] []
  refine j_aload_n (pc := 0) dX1_init_0 rfl ?_
  refine j_objinit (pc := 1) dX1_init_1 ol_X1_3 ol_im ol_co (by omega) (Nat.le_of_ble_eq_true rfl) ?_
  refine j_aload_n (pc := 4) dX1_init_4 rfl ?_
  refine j_newL (pc := 5) hl dX1_init_5 nl_X1_9 jdef_X3 rfl rfl (t2 := [(1, [.int 0, .int 0, .int 0, .int 0, .int 0, .int 0, .null, .null, .null, .null, .null]), (3, [.null])]) rfl (n := a + 1) rfl ?_
  refine j_dup (pc := 8) dX1_init_8 rfl ?_
  refine j_bipush (pc := 9) dX1_init_9 kb_6 ?_
  refine j_i1 (pc := 11) dX1_init_11 mc_X3_init rfl rfl ml_X1_11 im_X3_init (by omega) (c_rowInitL (n := 6) (k := 1) (t2 := [(1, [.int 0, .int 0, .int 0, .int 0, .int 0, .int 0, .null, .null, .null, .null, .null]), rowC (a + 1), ia 6 zF]) hl (by decide) rfl rfl) (Nat.le_of_ble_eq_true rfl) rfl rfl ?_
  refine j_putF (pc := 14) dX1_init_14 fl_X1_14 rfl (fun q e => by cases e; rfl) (jfit_r _ _) (apL (k := 0) hl rfl) (apLs (k := 0) (t2 := [(1, [.int 0, .int 0, .int 0, .int 0, .int 0, .int 0, .ref (a + 1), .null, .null, .null, .null]), rowC (a + 1), ia 6 zF]) hl rfl) ?_
  refine j_aload_n (pc := 17) dX1_init_17 rfl ?_
  refine j_newL (pc := 18) hl dX1_init_18 nl_X1_9 jdef_X3 rfl rfl (t2 := [(1, [.int 0, .int 0, .int 0, .int 0, .int 0, .int 0, .ref (a + 1), .null, .null, .null, .null]), rowC (a + 1), ia 6 zF, (3, [.null])]) rfl (n := a + 3) rfl ?_
  refine j_dup (pc := 21) dX1_init_21 rfl ?_
  refine j_bipush (pc := 22) dX1_init_22 kb_6 ?_
  refine j_i1 (pc := 24) dX1_init_24 mc_X3_init rfl rfl ml_X1_11 im_X3_init (by omega) (c_rowInitL (n := 6) (k := 3) (t2 := [(1, [.int 0, .int 0, .int 0, .int 0, .int 0, .int 0, .ref (a + 1), .null, .null, .null, .null]), rowC (a + 1), ia 6 zF, rowC (a + 3), ia 6 zF]) hl (by decide) rfl rfl) (Nat.le_of_ble_eq_true rfl) rfl rfl ?_
  refine j_putF (pc := 27) dX1_init_27 fl_X1_20 rfl (fun q e => by cases e; rfl) (jfit_r _ _) (apL (k := 0) hl rfl) (apLs (k := 0) (t2 := [(1, [.int 0, .int 0, .int 0, .int 0, .int 0, .int 0, .ref (a + 1), .ref (a + 3), .null, .null, .null]), rowC (a + 1), ia 6 zF, rowC (a + 3), ia 6 zF]) hl rfl) ?_
  refine j_aload_n (pc := 30) dX1_init_30 rfl ?_
  refine j_newL (pc := 31) hl dX1_init_31 nl_X1_9 jdef_X3 rfl rfl (t2 := [(1, [.int 0, .int 0, .int 0, .int 0, .int 0, .int 0, .ref (a + 1), .ref (a + 3), .null, .null, .null]), rowC (a + 1), ia 6 zF, rowC (a + 3), ia 6 zF, (3, [.null])]) rfl (n := a + 5) rfl ?_
  refine j_dup (pc := 34) dX1_init_34 rfl ?_
  refine j_bipush (pc := 35) dX1_init_35 kb_6 ?_
  refine j_i1 (pc := 37) dX1_init_37 mc_X3_init rfl rfl ml_X1_11 im_X3_init (by omega) (c_rowInitL (n := 6) (k := 5) (t2 := [(1, [.int 0, .int 0, .int 0, .int 0, .int 0, .int 0, .ref (a + 1), .ref (a + 3), .null, .null, .null]), rowC (a + 1), ia 6 zF, rowC (a + 3), ia 6 zF, rowC (a + 5), ia 6 zF]) hl (by decide) rfl rfl) (Nat.le_of_ble_eq_true rfl) rfl rfl ?_
  refine j_putF (pc := 40) dX1_init_40 fl_X1_23 rfl (fun q e => by cases e; rfl) (jfit_r _ _) (apL (k := 0) hl rfl) (apLs (k := 0) (t2 := [(1, [.int 0, .int 0, .int 0, .int 0, .int 0, .int 0, .ref (a + 1), .ref (a + 3), .ref (a + 5), .null, .null]), rowC (a + 1), ia 6 zF, rowC (a + 3), ia 6 zF, rowC (a + 5), ia 6 zF]) hl rfl) ?_
  refine j_aload_n (pc := 43) dX1_init_43 rfl ?_
  refine j_newL (pc := 44) hl dX1_init_44 nl_X1_9 jdef_X3 rfl rfl (t2 := [(1, [.int 0, .int 0, .int 0, .int 0, .int 0, .int 0, .ref (a + 1), .ref (a + 3), .ref (a + 5), .null, .null]), rowC (a + 1), ia 6 zF, rowC (a + 3), ia 6 zF, rowC (a + 5), ia 6 zF, (3, [.null])]) rfl (n := a + 7) rfl ?_
  refine j_dup (pc := 47) dX1_init_47 rfl ?_
  refine j_bipush (pc := 48) dX1_init_48 kb_6 ?_
  refine j_i1 (pc := 50) dX1_init_50 mc_X3_init rfl rfl ml_X1_11 im_X3_init (by omega) (c_rowInitL (n := 6) (k := 7) (t2 := [(1, [.int 0, .int 0, .int 0, .int 0, .int 0, .int 0, .ref (a + 1), .ref (a + 3), .ref (a + 5), .null, .null]), rowC (a + 1), ia 6 zF, rowC (a + 3), ia 6 zF, rowC (a + 5), ia 6 zF, rowC (a + 7), ia 6 zF]) hl (by decide) rfl rfl) (Nat.le_of_ble_eq_true rfl) rfl rfl ?_
  refine j_putF (pc := 53) dX1_init_53 fl_X1_26 rfl (fun q e => by cases e; rfl) (jfit_r _ _) (apL (k := 0) hl rfl) (apLs (k := 0) (t2 := [(1, [.int 0, .int 0, .int 0, .int 0, .int 0, .int 0, .ref (a + 1), .ref (a + 3), .ref (a + 5), .ref (a + 7), .null]), rowC (a + 1), ia 6 zF, rowC (a + 3), ia 6 zF, rowC (a + 5), ia 6 zF, rowC (a + 7), ia 6 zF]) hl rfl) ?_
  refine j_aload_n (pc := 56) dX1_init_56 rfl ?_
  refine j_newL (pc := 57) hl dX1_init_57 nl_X1_9 jdef_X3 rfl rfl (t2 := [(1, [.int 0, .int 0, .int 0, .int 0, .int 0, .int 0, .ref (a + 1), .ref (a + 3), .ref (a + 5), .ref (a + 7), .null]), rowC (a + 1), ia 6 zF, rowC (a + 3), ia 6 zF, rowC (a + 5), ia 6 zF, rowC (a + 7), ia 6 zF, (3, [.null])]) rfl (n := a + 9) rfl ?_
  refine j_dup (pc := 60) dX1_init_60 rfl ?_
  refine j_bipush (pc := 61) dX1_init_61 kb_6 ?_
  refine j_i1 (pc := 63) dX1_init_63 mc_X3_init rfl rfl ml_X1_11 im_X3_init (by omega) (c_rowInitL (n := 6) (k := 9) (t2 := [(1, [.int 0, .int 0, .int 0, .int 0, .int 0, .int 0, .ref (a + 1), .ref (a + 3), .ref (a + 5), .ref (a + 7), .null]), rowC (a + 1), ia 6 zF, rowC (a + 3), ia 6 zF, rowC (a + 5), ia 6 zF, rowC (a + 7), ia 6 zF, rowC (a + 9), ia 6 zF]) hl (by decide) rfl rfl) (Nat.le_of_ble_eq_true rfl) rfl rfl ?_
  refine j_putF (pc := 66) dX1_init_66 fl_X1_29 rfl (fun q e => by cases e; rfl) (jfit_r _ _) (apL (k := 0) hl rfl) (apLs (k := 0) (t2 := [(1, [.int 0, .int 0, .int 0, .int 0, .int 0, .int 0, .ref (a + 1), .ref (a + 3), .ref (a + 5), .ref (a + 7), .ref (a + 9)]), rowC (a + 1), ia 6 zF, rowC (a + 3), ia 6 zF, rowC (a + 5), ia 6 zF, rowC (a + 7), ia 6 zF, rowC (a + 9), ia 6 zF]) hl rfl) ?_
  refine j_aload_n (pc := 69) dX1_init_69 rfl ?_
  refine j_v0n (pc := 70) (ci := 1) dX1_init_70 mc_X1_begin ml_X1_32 im_X1_begin se_X1_begin rfl rfl (apL (k := 0) hl rfl) (by omega) (CD.heap (apLs (k := 0) hl rfl) (c_paBegin (v := (0, 0, 0, 0, 0, 0, zF, zF, zF, zF, zF)) (apL (k := 0) hl rfl))) (Nat.le_of_ble_eq_true rfl) ?_
  refine j_return (pc := 73) dX1_init_73 rfl ?_
  exact ⟨rfl, rfl⟩

set_option maxRecDepth 20000 in
set_option maxHeartbeats 200000 in
theorem x_rdInit {l : List AC} {a : Nat} (hl : l.length = a) {b : Nat} : C g 1 0 0 mX2_init [.ref a, .ref b] (l ++ [(2, dfX2)]) (fun r h' => r = none ∧ h' = l ++ [(2, .ref b :: dfX2.tail)]) := by
  refine C.of (by decide +kernel) (by simp [Value.category]) (Nat.le_of_ble_eq_true rfl) ?_
  change J g mX2_init 1 0 0 _ (l ++ [(2, dfX2)]) 0 [some (.ref a), some (.ref b)] []
  refine j_aload_n (pc := 0) dX2_init_0 rfl ?_
  refine j_objinit (pc := 1) dX2_init_1 ol_X2_3 ol_im ol_co (by omega) (Nat.le_of_ble_eq_true rfl) ?_
  refine j_aload_n (pc := 4) dX2_init_4 rfl ?_
  refine j_aload_n (pc := 5) dX2_init_5 rfl ?_
  refine j_putF (pc := 6) dX2_init_6 fl_X2_9 rfl (fun q e => by cases e; rfl) (jfit_r _ _) (apL (k := 0) hl rfl) (apLs (k := 0) hl rfl) ?_
  refine j_return (pc := 9) dX2_init_9 rfl ?_
  exact ⟨rfl, rfl⟩

def scs (a : Nat) : Nat → List AC
  | 0 => []
  | i + 1 => scs a i ++ scL (a + 2 + 7 * i) zS
theorem scs_len (a : Nat) : ∀ i : Nat, (scs a i).length = 7 * i
  | 0 => rfl
  | i + 1 => by
    rw [scs, List.length_append, scs_len a i]
    show 7 * i + 7 = 7 * (i + 1)
    omega
def vsI (a n i : Nat) : List Value := (List.range n).map fun j => if j < i then .ref (a + 2 + 7 * j) else .null
theorem vsI_len (a n i : Nat) : (vsI a n i).length = n := by simp [vsI]
theorem vsI_set {a n i : Nat} : (vsI a n i).set i (.ref (a + 2 + 7 * i)) = vsI a n (i + 1) := by
  apply List.ext_getElem?
  intro k
  by_cases hk : k < n
  · by_cases e : k = i
    · subst e
      rw [List.getElem?_set_self (by rw [vsI_len]; exact hk)]
      simp [vsI, hk]
    · rw [List.getElem?_set_ne (Ne.symm e)]
      simp only [vsI, List.getElem?_map, List.getElem?_range hk, Option.map_some]
      by_cases h2 : k < i
      · rw [if_pos h2, if_pos (by omega)]
      · rw [if_neg h2, if_neg (by omega)]
  · rw [List.getElem?_eq_none (by rw [List.length_set, vsI_len]; omega), List.getElem?_eq_none (by rw [vsI_len]; omega)]
theorem vsI_0 (a n : Nat) : List.replicate n Value.null = vsI a n 0 := by
  apply List.ext_getElem?
  intro k
  by_cases hk : k < n
  · simp [vsI, hk]
  · rw [List.getElem?_eq_none (by simp; omega), List.getElem?_eq_none (by rw [vsI_len]; omega)]
def shT (a n i : Nat) : List AC := (5, [.ref (a + 1)]) :: (10, vsI a n i) :: scs a i
theorem shT_len (a n i : Nat) : (shT a n i).length = 2 + 7 * i := by
  show (scs a i).length + 1 + 1 = 2 + 7 * i
  rw [scs_len]
  omega
set_option maxRecDepth 20000 in
set_option maxHeartbeats 200000 in
theorem xl_shInit {l : List AC} {a n : Nat} (hl : l.length = a) (hn : n < 100) : ∀ (m i : Nat), i + m = n → J g mX5_init 3 (7 * m) (27 * m) (fun r h' => r = none ∧ h' = l ++ shT a n n) (l ++ shT a n i) 18 [some (.ref a), some (.int (nI n)), some (.int (nI i))] [] := by
  intro m
  induction m with
  | zero =>
    intro i hk
    refine j_iload_n (pc := 18) dX5_init_18 rfl ?_
    refine j_aload_n (pc := 19) dX5_init_19 rfl ?_
    refine j_getf (pc := 20) dX5_init_20 fl_X5_15 (apL (k := 0) hl rfl) rfl ?_
    refine j_alen (pc := 23) dX5_init_23 (apL (k := 1) hl rfl) rfl (by rw [vsI_len]) ?_
    refine j_icmp_ge (pc := 24) (tgt := 46) dX5_init_24 rfl (fun _ => ?_) (fun zc24 => absurd (nI_le (a := n) (b := i) (by omega) (by omega)) zc24)
    refine j_return (pc := 46) dX5_init_46 rfl ?_
    have e : i = n := by omega
    subst e
    exact ⟨rfl, rfl⟩
  | succ m ih =>
    intro i hk
    refine j_iload_n (pc := 18) dX5_init_18 rfl ?_
    refine j_aload_n (pc := 19) dX5_init_19 rfl ?_
    refine j_getf (pc := 20) dX5_init_20 fl_X5_15 (apL (k := 0) hl rfl) rfl ?_
    refine j_alen (pc := 23) dX5_init_23 (apL (k := 1) hl rfl) rfl (by rw [vsI_len]) ?_
    refine j_icmp_ge (pc := 24) (tgt := 46) dX5_init_24 rfl (fun zc24 => absurd zc24 (nI_ge (a := i) (b := n) (by omega) (by omega))) (fun _ => ?_)
    refine j_aload_n (pc := 27) dX5_init_27 rfl ?_
    refine j_getf (pc := 28) dX5_init_28 fl_X5_15 (apL (k := 0) hl rfl) rfl ?_
    refine j_iload_n (pc := 31) dX5_init_31 rfl ?_
    refine j_new (pc := 32) dX5_init_32 nl_X5_13 jdef_X4 (mc1 := 7 * m + 6) (ms1 := 27 * m + 21) (by omega) (by omega) ?_
    rw [show (l ++ shT a n i).length = a + 2 + 7 * i by rw [List.length_append, hl, shT_len]; omega]
    refine j_dup (pc := 35) dX5_init_35 rfl ?_
    refine j_ni0 (pc := 36) dX5_init_36 mc_X4_init rfl rfl nk_X5_21 im_X4_init (by omega) (x_scInit (l := l ++ shT a n i) (a := a + 2 + 7 * i) (by rw [List.length_append, hl, shT_len]; omega)) (Nat.le_of_ble_eq_true rfl) rfl rfl ?_
    rw [List.append_assoc]
    have hsc : ∀ i : Nat, (l ++ (shT a n i ++ scL (a + 2 + 7 * i) zS))[a + 2 + 7 * i]? = some (4, [.int 0, .int 0, .int 0, .ref (a + 2 + 7 * i + 1), .ref (a + 2 + 7 * i + 3), .ref (a + 2 + 7 * i + 5)]) := fun i => by
      rw [← List.append_assoc]
      exact apL (l := l ++ shT a n i) (a := a + 2 + 7 * i) (k := 0) (by rw [List.length_append, hl, shT_len]; omega) rfl
    refine j_aast (pc := 39) dX5_init_39 (apL (k := 1) hl (show (shT a n i ++ scL (a + 2 + 7 * i) zS)[1]? = some (10, vsI a n i) from rfl)) (vsI_len a n i) (vp_in_nI (show i < n by omega) (by omega)) (hsc i) (show _ = l ++ shT a n (i + 1) from by
      rw [nI_clamp (show i < 2 ^ 31 by omega), vsI_set]
      exact apLs (k := 1) hl rfl) ?_
    refine j_iinc (pc := 40) dX5_init_40 rfl rfl (Nat.le_of_ble_eq_true rfl) rfl ?_
    refine j_goto (pc := 43) (tgt := 18) dX5_init_43 rfl ?_
    rw [nI_s]
    exact ih (i + 1) (by omega)

set_option maxRecDepth 20000 in
set_option maxHeartbeats 200000 in
theorem x_shInit {l : List AC} {a n : Nat} (hl : l.length = a) (hn : n < 100) : C g 3 (7 * n + 1) (27 * n + n) mX5_init [.ref a, .int (nI n)] (l ++ [(5, dfX5)]) (fun r h' => r = none ∧ h' = l ++ shT a n n) := by
  refine C.of (by decide +kernel) (by simp [Value.category]) (Nat.le_of_ble_eq_true rfl) ?_
  change J g mX5_init 3 (7 * n + 1) (27 * n + n) _ (l ++ [(5, dfX5)]) 0 [some (.ref a), some (.int (nI n)), none] []
  refine j_aload_n (pc := 0) dX5_init_0 rfl ?_
  refine j_objinit (pc := 1) dX5_init_1 ol_X5_1 ol_im ol_co (by omega) (Nat.le_of_ble_eq_true rfl) ?_
  refine j_aload_n (pc := 4) dX5_init_4 rfl ?_
  refine j_iconst (pc := 5) dX5_init_5 kc_0 ?_
  refine j_iload_n (pc := 6) dX5_init_6 rfl ?_
  refine j_max (pc := 7) dX5_init_7 ml_X5_7 (by omega) (Nat.le_of_ble_eq_true rfl) ?_
  refine j_anewarr (pc := 10) dX5_init_10 cl_X5_13 (by rw [imax_nI (by omega)]; exact nI_pos (by omega)) (by rw [imax_nI (by omega), nI_clamp (by omega)]) (by omega) rfl rfl ?_
  rw [List.append_assoc, vsI_0 a n, List.length_append, hl]
  refine j_putF (pc := 13) dX5_init_13 fl_X5_15 rfl (fun q e => by cases e; rfl) (jfit_a _ _) (apL (k := 0) hl rfl) (show _ = l ++ shT a n 0 from apLs (k := 0) hl rfl) ?_
  refine j_iconst (pc := 16) dX5_init_16 kc_0 ?_
  refine j_istore_n (pc := 17) dX5_init_17 rfl (Nat.le_of_ble_eq_true rfl) rfl ?_
  exact xl_shInit hl hn n 0 (by omega)

set_option maxRecDepth 20000 in
set_option maxHeartbeats 200000 in
theorem x_hsInit {l : List AC} {a : Nat} (hl : l.length = a) : C g 4 72 281 mX0_init [.ref a] (l ++ [(0, dfX0)]) (fun r h' => r = none ∧ h' = l ++ ((0, [.int 0, .int 0, .ref (a + 1)]) :: shT (a + 1) 10 10)) := by
  refine C.of (by decide +kernel) (by simp [Value.category]) (Nat.le_of_ble_eq_true rfl) ?_
  change J g mX0_init 4 72 281 _ (l ++ [(0, dfX0)]) 0 [some (.ref a)] []
  refine j_aload_n (pc := 0) dX0_init_0 rfl ?_
  refine j_objinit (pc := 1) dX0_init_1 ol_X0_3 ol_im ol_co (by omega) (Nat.le_of_ble_eq_true rfl) ?_
  refine j_aload_n (pc := 4) dX0_init_4 rfl ?_
  refine j_new (pc := 5) dX0_init_5 nl_X0_9 jdef_X5 rfl rfl ?_
  rw [show (l ++ [((0, dfX0) : AC)]).length = a + 1 by rw [List.length_append, hl]; rfl]
  refine j_dup (pc := 8) dX0_init_8 rfl ?_
  refine j_bipush (pc := 9) dX0_init_9 kb_10 ?_
  refine j_i1 (pc := 11) dX0_init_11 mc_X5_init rfl rfl ml_X0_11 im_X5_init (by omega) (x_shInit (l := l ++ [(0, dfX0)]) (a := a + 1) (n := 10) (by rw [List.length_append, hl]; rfl) (by decide)) (Nat.le_of_ble_eq_true rfl) rfl rfl ?_
  rw [List.append_assoc]
  refine j_putF (pc := 14) dX0_init_14 fl_X0_14 rfl (fun q e => by cases e; rfl) (jfit_r _ _) (apL (k := 0) hl rfl) (apLs (k := 0) hl rfl) ?_
  refine j_return (pc := 17) dX0_init_17 rfl ?_
  exact ⟨rfl, rfl⟩

set_option maxRecDepth 200000 in
set_option maxHeartbeats 2000000 in
theorem x_init {scr : AC} : C g 5 127 641 mX6_init [.ref 1] (scr :: (6, [.null, .int 0, .null, .null, .null, .null, .null, .null, .null, .int 0, .null, .null, .int 0, .long 0]) :: ([])) (fun r h' => r = none ∧ h' = (W1 scr [] zF 0 (0, 0, 0, 0, 0, false, false, false) false pV pV (0, 0, 2, zF, zF, fun _ => -9) 0 0 (fun _ => zS) zF (fun _ => zS) 0 zF zF 0 0)) := by
  refine C.of (by decide +kernel) (by simp [Value.category]) (Nat.le_of_ble_eq_true rfl) ?_
  change J g mX6_init 5 127 641 _ (scr :: (6, [.null, .int 0, .null, .null, .null, .null, .null, .null, .null, .int 0, .null, .null, .int 0, .long 0]) :: ([])) 0 [some (.ref 1)] []
  refine j_aload_n (pc := 0) dX6_init_0 rfl ?_
  refine j_objinit (pc := 1) dX6_init_1 ol_X6_1 ol_im ol_co (by omega) (Nat.le_of_ble_eq_true rfl) ?_
  refine j_aload_n (pc := 4) dX6_init_4 rfl ?_
  refine j_new (pc := 5) dX6_init_5 nl_X6_7 jdef_X3 rfl rfl ?_
  change J g mX6_init _ _ _ _ _ _ _ (.ref 2 :: _)
  refine j_dup (pc := 8) dX6_init_8 rfl ?_
  refine j_sipush (pc := 9) dX6_init_9 ks_150 ?_
  refine j_i1 (pc := 12) dX6_init_12 mc_X3_init rfl rfl ml_X6_11 im_X3_init (by omega) ((show C g 1 1 150 mX3_init [.ref 2, .int 150] ((scr :: (6, [.null, .int 0, .null, .null, .null, .null, .null, .null, .null, .int 0, .null, .null, .int 0, .long 0]) :: ([])) ++ [(3, [.null])]) (fun r h' => r = none ∧ h' = (scr :: (6, [.null, .int 0, .null, .null, .null, .null, .null, .null, .null, .int 0, .null, .null, .int 0, .long 0]) :: ([])) ++ [rowC 2, ia 150 zF]) from c_rowInitL (l := (scr :: (6, [.null, .int 0, .null, .null, .null, .null, .null, .null, .null, .int 0, .null, .null, .int 0, .long 0]) :: ([]))) (a := 2) (k := 0) (n := 150) rfl (by decide) rfl rfl)) (Nat.le_of_ble_eq_true rfl) rfl rfl ?_
  refine j_putF (pc := 15) dX6_init_15 fl_X6_14 rfl (fun q e => by cases e; rfl) (jfit_r _ _) rfl (show _ = (scr :: (6, [.ref 2, .int 0, .null, .null, .null, .null, .null, .null, .null, .int 0, .null, .null, .int 0, .long 0]) :: ([rowC 2, ia 150 zF])) from rfl) ?_
  refine j_aload_n (pc := 18) dX6_init_18 rfl ?_
  refine j_new (pc := 19) dX6_init_19 nl_X6_18 jdef_X2 rfl rfl ?_
  change J g mX6_init _ _ _ _ _ _ _ (.ref 4 :: _)
  refine j_dup (pc := 22) dX6_init_22 rfl ?_
  refine j_aload_n (pc := 23) dX6_init_23 rfl ?_
  refine j_getf (pc := 24) dX6_init_24 fl_X6_14 rfl rfl ?_
  refine j_i1 (pc := 27) dX6_init_27 mc_X2_init rfl rfl ml_X6_20 im_X2_init (by omega) (x_rdInit (l := (scr :: (6, [.ref 2, .int 0, .null, .null, .null, .null, .null, .null, .null, .int 0, .null, .null, .int 0, .long 0]) :: ([rowC 2, ia 150 zF]))) (a := 4) rfl) (Nat.le_of_ble_eq_true rfl) rfl rfl ?_
  refine j_putF (pc := 30) dX6_init_30 fl_X6_23 rfl (fun q e => by cases e; rfl) (jfit_r _ _) rfl (show _ = (scr :: (6, [.ref 2, .int 0, .ref 4, .null, .null, .null, .null, .null, .null, .int 0, .null, .null, .int 0, .long 0]) :: ([rowC 2, ia 150 zF] ++ ([rdC (0, 0, 0, 0, 0, false, false, false)]))) from rfl) ?_
  refine j_aload_n (pc := 33) dX6_init_33 rfl ?_
  refine j_new (pc := 34) dX6_init_34 nl_X6_27 jdef_X1 rfl rfl ?_
  change J g mX6_init _ _ _ _ _ _ _ (.ref 5 :: _)
  refine j_dup (pc := 37) dX6_init_37 rfl ?_
  refine j_i0 (pc := 38) dX6_init_38 mc_X1_init rfl rfl ml_X6_29 im_X1_init (by omega) (x_paInit (l := (scr :: (6, [.ref 2, .int 0, .ref 4, .null, .null, .null, .null, .null, .null, .int 0, .null, .null, .int 0, .long 0]) :: ([rowC 2, ia 150 zF] ++ ([rdC (0, 0, 0, 0, 0, false, false, false)])))) (a := 5) rfl) (Nat.le_of_ble_eq_true rfl) rfl rfl ?_
  refine j_putf (pc := 41) dX6_init_41 fl_X6_30 (jfit_r _ _) rfl (show _ = (scr :: (6, [.ref 2, .int 0, .ref 4, .ref 5, .null, .null, .null, .null, .null, .int 0, .null, .null, .int 0, .long 0]) :: ([rowC 2, ia 150 zF] ++ ([rdC (0, 0, 0, 0, 0, false, false, false)]) ++ (paL 5 pV))) from rfl) ?_
  refine j_aload_n (pc := 44) dX6_init_44 rfl ?_
  refine j_new (pc := 45) dX6_init_45 nl_X6_27 jdef_X1 rfl rfl ?_
  change J g mX6_init _ _ _ _ _ _ _ (.ref 16 :: _)
  refine j_dup (pc := 48) dX6_init_48 rfl ?_
  refine j_i0 (pc := 49) dX6_init_49 mc_X1_init rfl rfl ml_X6_29 im_X1_init (by omega) (x_paInit (l := (scr :: (6, [.ref 2, .int 0, .ref 4, .ref 5, .null, .null, .null, .null, .null, .int 0, .null, .null, .int 0, .long 0]) :: ([rowC 2, ia 150 zF] ++ ([rdC (0, 0, 0, 0, 0, false, false, false)]) ++ (paL 5 pV)))) (a := 16) rfl) (Nat.le_of_ble_eq_true rfl) rfl rfl ?_
  refine j_putf (pc := 52) dX6_init_52 fl_X6_34 (jfit_r _ _) rfl (show _ = (scr :: (6, [.ref 2, .int 0, .ref 4, .ref 5, .ref 16, .null, .null, .null, .null, .int 0, .null, .null, .int 0, .long 0]) :: ([rowC 2, ia 150 zF] ++ ([rdC (0, 0, 0, 0, 0, false, false, false)]) ++ (paL 5 pV) ++ (paL 16 pV))) from rfl) ?_
  refine j_aload_n (pc := 55) dX6_init_55 rfl ?_
  refine j_new (pc := 56) dX6_init_56 nl_X6_37 jdef_X4 rfl rfl ?_
  change J g mX6_init _ _ _ _ _ _ _ (.ref 27 :: _)
  refine j_dup (pc := 59) dX6_init_59 rfl ?_
  refine j_ni0 (pc := 60) dX6_init_60 mc_X4_init rfl rfl nk_X6_39 im_X4_init (by omega) (x_scInit (l := (scr :: (6, [.ref 2, .int 0, .ref 4, .ref 5, .ref 16, .null, .null, .null, .null, .int 0, .null, .null, .int 0, .long 0]) :: ([rowC 2, ia 150 zF] ++ ([rdC (0, 0, 0, 0, 0, false, false, false)]) ++ (paL 5 pV) ++ (paL 16 pV)))) (a := 27) rfl) (Nat.le_of_ble_eq_true rfl) rfl rfl ?_
  refine j_putF (pc := 63) dX6_init_63 fl_X6_40 rfl (fun q e => by cases e; rfl) (jfit_r _ _) rfl (show _ = (scr :: (6, [.ref 2, .int 0, .ref 4, .ref 5, .ref 16, .ref 27, .null, .null, .null, .int 0, .null, .null, .int 0, .long 0]) :: ([rowC 2, ia 150 zF] ++ ([rdC (0, 0, 0, 0, 0, false, false, false)]) ++ (paL 5 pV) ++ (paL 16 pV) ++ (scL 27 zS))) from rfl) ?_
  refine j_aload_n (pc := 66) dX6_init_66 rfl ?_
  refine j_getf (pc := 67) dX6_init_67 fl_X6_40 rfl rfl ?_
  refine j_aload_n (pc := 70) dX6_init_70 rfl ?_
  refine j_getf (pc := 71) dX6_init_71 fl_X6_30 rfl rfl ?_
  refine j_v1n (pc := 74) (ci := 4) dX6_init_74 mc_X4_begin ml_X6_44 im_X4_begin se_X4_begin rfl rfl rfl (by omega) (CD.heap (show _ = (scr :: (6, [.ref 2, .int 0, .ref 4, .ref 5, .ref 16, .ref 27, .null, .null, .null, .int 0, .null, .null, .int 0, .long 0]) :: ([rowC 2, ia 150 zF] ++ ([rdC (0, 0, 0, 0, 0, false, false, false)]) ++ (paL 5 pV) ++ (paL 16 pV) ++ (scL 27 (0, 0, 2, zF, zF, fun _ => -9)))) from rfl) (c_scBegin (a := 27) (b := 5) (v := zS) (w := pV) ⟨rfl, rfl, rfl, rfl, rfl, rfl, rfl⟩ (Or.inr (by decide)) rfl rfl rfl rfl rfl)) (Nat.le_of_ble_eq_true rfl) ?_
  refine j_aload_n (pc := 77) dX6_init_77 rfl ?_
  refine j_new (pc := 78) dX6_init_78 nl_X6_48 jdef_X0 rfl rfl ?_
  change J g mX6_init _ _ _ _ _ _ _ (.ref 34 :: _)
  refine j_dup (pc := 81) dX6_init_81 rfl ?_
  refine j_ni0 (pc := 82) dX6_init_82 mc_X0_init rfl rfl nk_X6_50 im_X0_init (by omega) (x_hsInit (l := (scr :: (6, [.ref 2, .int 0, .ref 4, .ref 5, .ref 16, .ref 27, .null, .null, .null, .int 0, .null, .null, .int 0, .long 0]) :: ([rowC 2, ia 150 zF] ++ ([rdC (0, 0, 0, 0, 0, false, false, false)]) ++ (paL 5 pV) ++ (paL 16 pV) ++ (scL 27 (0, 0, 2, zF, zF, fun _ => -9))))) (a := 34) rfl) (Nat.le_of_ble_eq_true rfl) rfl rfl ?_
  refine j_putF (pc := 85) dX6_init_85 fl_X6_51 rfl (fun q e => by cases e; rfl) (jfit_r _ _) rfl (show _ = (scr :: (6, [.ref 2, .int 0, .ref 4, .ref 5, .ref 16, .ref 27, .ref 34, .null, .null, .int 0, .null, .null, .int 0, .long 0]) :: ([rowC 2, ia 150 zF] ++ ([rdC (0, 0, 0, 0, 0, false, false, false)]) ++ (paL 5 pV) ++ (paL 16 pV) ++ (scL 27 (0, 0, 2, zF, zF, fun _ => -9)) ++ (hsC 0 0 :: shT 35 10 10))) from rfl) ?_
  refine j_aload_n (pc := 88) dX6_init_88 rfl ?_
  refine j_new (pc := 89) dX6_init_89 nl_X6_7 jdef_X3 rfl rfl ?_
  change J g mX6_init _ _ _ _ _ _ _ (.ref 107 :: _)
  refine j_dup (pc := 92) dX6_init_92 rfl ?_
  refine j_bipush (pc := 93) dX6_init_93 kb_6 ?_
  refine j_i1 (pc := 95) dX6_init_95 mc_X3_init rfl rfl ml_X6_11 im_X3_init (by omega) ((show C g 1 1 6 mX3_init [.ref 107, .int 6] ((scr :: (6, [.ref 2, .int 0, .ref 4, .ref 5, .ref 16, .ref 27, .ref 34, .null, .null, .int 0, .null, .null, .int 0, .long 0]) :: ([rowC 2, ia 150 zF] ++ ([rdC (0, 0, 0, 0, 0, false, false, false)]) ++ (paL 5 pV) ++ (paL 16 pV) ++ (scL 27 (0, 0, 2, zF, zF, fun _ => -9)) ++ (hsC 0 0 :: shT 35 10 10))) ++ [(3, [.null])]) (fun r h' => r = none ∧ h' = (scr :: (6, [.ref 2, .int 0, .ref 4, .ref 5, .ref 16, .ref 27, .ref 34, .null, .null, .int 0, .null, .null, .int 0, .long 0]) :: ([rowC 2, ia 150 zF] ++ ([rdC (0, 0, 0, 0, 0, false, false, false)]) ++ (paL 5 pV) ++ (paL 16 pV) ++ (scL 27 (0, 0, 2, zF, zF, fun _ => -9)) ++ (hsC 0 0 :: shT 35 10 10))) ++ [rowC 107, ia 6 zF]) from c_rowInitL (l := (scr :: (6, [.ref 2, .int 0, .ref 4, .ref 5, .ref 16, .ref 27, .ref 34, .null, .null, .int 0, .null, .null, .int 0, .long 0]) :: ([rowC 2, ia 150 zF] ++ ([rdC (0, 0, 0, 0, 0, false, false, false)]) ++ (paL 5 pV) ++ (paL 16 pV) ++ (scL 27 (0, 0, 2, zF, zF, fun _ => -9)) ++ (hsC 0 0 :: shT 35 10 10)))) (a := 107) (k := 0) (n := 6) rfl (by decide) rfl rfl)) (Nat.le_of_ble_eq_true rfl) rfl rfl ?_
  refine j_putF (pc := 98) dX6_init_98 fl_X6_55 rfl (fun q e => by cases e; rfl) (jfit_r _ _) rfl (show _ = (scr :: (6, [.ref 2, .int 0, .ref 4, .ref 5, .ref 16, .ref 27, .ref 34, .ref 107, .null, .int 0, .null, .null, .int 0, .long 0]) :: ([rowC 2, ia 150 zF] ++ ([rdC (0, 0, 0, 0, 0, false, false, false)]) ++ (paL 5 pV) ++ (paL 16 pV) ++ (scL 27 (0, 0, 2, zF, zF, fun _ => -9)) ++ (hsC 0 0 :: shT 35 10 10) ++ ([rowC 107, ia 6 zF]))) from rfl) ?_
  refine j_aload_n (pc := 101) dX6_init_101 rfl ?_
  refine j_new (pc := 102) dX6_init_102 nl_X6_58 jdef_X5 rfl rfl ?_
  change J g mX6_init _ _ _ _ _ _ _ (.ref 109 :: _)
  refine j_dup (pc := 105) dX6_init_105 rfl ?_
  refine j_iconst (pc := 106) dX6_init_106 kc_2 ?_
  refine j_i1 (pc := 107) dX6_init_107 mc_X5_init rfl rfl ml_X6_60 im_X5_init (by omega) (x_shInit (n := 2) (l := (scr :: (6, [.ref 2, .int 0, .ref 4, .ref 5, .ref 16, .ref 27, .ref 34, .ref 107, .null, .int 0, .null, .null, .int 0, .long 0]) :: ([rowC 2, ia 150 zF] ++ ([rdC (0, 0, 0, 0, 0, false, false, false)]) ++ (paL 5 pV) ++ (paL 16 pV) ++ (scL 27 (0, 0, 2, zF, zF, fun _ => -9)) ++ (hsC 0 0 :: shT 35 10 10) ++ ([rowC 107, ia 6 zF])))) (a := 109) rfl (by decide)) (Nat.le_of_ble_eq_true rfl) rfl rfl ?_
  refine j_putF (pc := 110) dX6_init_110 fl_X6_61 rfl (fun q e => by cases e; rfl) (jfit_r _ _) rfl (show _ = (scr :: (6, [.ref 2, .int 0, .ref 4, .ref 5, .ref 16, .ref 27, .ref 34, .ref 107, .ref 109, .int 0, .null, .null, .int 0, .long 0]) :: ([rowC 2, ia 150 zF] ++ ([rdC (0, 0, 0, 0, 0, false, false, false)]) ++ (paL 5 pV) ++ (paL 16 pV) ++ (scL 27 (0, 0, 2, zF, zF, fun _ => -9)) ++ (hsC 0 0 :: shT 35 10 10) ++ ([rowC 107, ia 6 zF]) ++ (shT 109 2 2))) from rfl) ?_
  refine j_aload_n (pc := 113) dX6_init_113 rfl ?_
  refine j_new (pc := 114) dX6_init_114 nl_X6_7 jdef_X3 rfl rfl ?_
  change J g mX6_init _ _ _ _ _ _ _ (.ref 125 :: _)
  refine j_dup (pc := 117) dX6_init_117 rfl ?_
  refine j_bipush (pc := 118) dX6_init_118 kb_6 ?_
  refine j_i1 (pc := 120) dX6_init_120 mc_X3_init rfl rfl ml_X6_11 im_X3_init (by omega) ((show C g 1 1 6 mX3_init [.ref 125, .int 6] ((scr :: (6, [.ref 2, .int 0, .ref 4, .ref 5, .ref 16, .ref 27, .ref 34, .ref 107, .ref 109, .int 0, .null, .null, .int 0, .long 0]) :: ([rowC 2, ia 150 zF] ++ ([rdC (0, 0, 0, 0, 0, false, false, false)]) ++ (paL 5 pV) ++ (paL 16 pV) ++ (scL 27 (0, 0, 2, zF, zF, fun _ => -9)) ++ (hsC 0 0 :: shT 35 10 10) ++ ([rowC 107, ia 6 zF]) ++ (shT 109 2 2))) ++ [(3, [.null])]) (fun r h' => r = none ∧ h' = (scr :: (6, [.ref 2, .int 0, .ref 4, .ref 5, .ref 16, .ref 27, .ref 34, .ref 107, .ref 109, .int 0, .null, .null, .int 0, .long 0]) :: ([rowC 2, ia 150 zF] ++ ([rdC (0, 0, 0, 0, 0, false, false, false)]) ++ (paL 5 pV) ++ (paL 16 pV) ++ (scL 27 (0, 0, 2, zF, zF, fun _ => -9)) ++ (hsC 0 0 :: shT 35 10 10) ++ ([rowC 107, ia 6 zF]) ++ (shT 109 2 2))) ++ [rowC 125, ia 6 zF]) from c_rowInitL (l := (scr :: (6, [.ref 2, .int 0, .ref 4, .ref 5, .ref 16, .ref 27, .ref 34, .ref 107, .ref 109, .int 0, .null, .null, .int 0, .long 0]) :: ([rowC 2, ia 150 zF] ++ ([rdC (0, 0, 0, 0, 0, false, false, false)]) ++ (paL 5 pV) ++ (paL 16 pV) ++ (scL 27 (0, 0, 2, zF, zF, fun _ => -9)) ++ (hsC 0 0 :: shT 35 10 10) ++ ([rowC 107, ia 6 zF]) ++ (shT 109 2 2)))) (a := 125) (k := 0) (n := 6) rfl (by decide) rfl rfl)) (Nat.le_of_ble_eq_true rfl) rfl rfl ?_
  refine j_putF (pc := 123) dX6_init_123 fl_X6_65 rfl (fun q e => by cases e; rfl) (jfit_r _ _) rfl (show _ = (scr :: (6, [.ref 2, .int 0, .ref 4, .ref 5, .ref 16, .ref 27, .ref 34, .ref 107, .ref 109, .int 0, .ref 125, .null, .int 0, .long 0]) :: ([rowC 2, ia 150 zF] ++ ([rdC (0, 0, 0, 0, 0, false, false, false)]) ++ (paL 5 pV) ++ (paL 16 pV) ++ (scL 27 (0, 0, 2, zF, zF, fun _ => -9)) ++ (hsC 0 0 :: shT 35 10 10) ++ ([rowC 107, ia 6 zF]) ++ (shT 109 2 2) ++ ([rowC 125, ia 6 zF]))) from rfl) ?_
  refine j_aload_n (pc := 126) dX6_init_126 rfl ?_
  refine j_new (pc := 127) dX6_init_127 nl_X6_7 jdef_X3 rfl rfl ?_
  change J g mX6_init _ _ _ _ _ _ _ (.ref 127 :: _)
  refine j_dup (pc := 130) dX6_init_130 rfl ?_
  refine j_bipush (pc := 131) dX6_init_131 kb_6 ?_
  refine j_i1 (pc := 133) dX6_init_133 mc_X3_init rfl rfl ml_X6_11 im_X3_init (by omega) ((show C g 1 1 6 mX3_init [.ref 127, .int 6] ((scr :: (6, [.ref 2, .int 0, .ref 4, .ref 5, .ref 16, .ref 27, .ref 34, .ref 107, .ref 109, .int 0, .ref 125, .null, .int 0, .long 0]) :: ([rowC 2, ia 150 zF] ++ ([rdC (0, 0, 0, 0, 0, false, false, false)]) ++ (paL 5 pV) ++ (paL 16 pV) ++ (scL 27 (0, 0, 2, zF, zF, fun _ => -9)) ++ (hsC 0 0 :: shT 35 10 10) ++ ([rowC 107, ia 6 zF]) ++ (shT 109 2 2) ++ ([rowC 125, ia 6 zF]))) ++ [(3, [.null])]) (fun r h' => r = none ∧ h' = (scr :: (6, [.ref 2, .int 0, .ref 4, .ref 5, .ref 16, .ref 27, .ref 34, .ref 107, .ref 109, .int 0, .ref 125, .null, .int 0, .long 0]) :: ([rowC 2, ia 150 zF] ++ ([rdC (0, 0, 0, 0, 0, false, false, false)]) ++ (paL 5 pV) ++ (paL 16 pV) ++ (scL 27 (0, 0, 2, zF, zF, fun _ => -9)) ++ (hsC 0 0 :: shT 35 10 10) ++ ([rowC 107, ia 6 zF]) ++ (shT 109 2 2) ++ ([rowC 125, ia 6 zF]))) ++ [rowC 127, ia 6 zF]) from c_rowInitL (l := (scr :: (6, [.ref 2, .int 0, .ref 4, .ref 5, .ref 16, .ref 27, .ref 34, .ref 107, .ref 109, .int 0, .ref 125, .null, .int 0, .long 0]) :: ([rowC 2, ia 150 zF] ++ ([rdC (0, 0, 0, 0, 0, false, false, false)]) ++ (paL 5 pV) ++ (paL 16 pV) ++ (scL 27 (0, 0, 2, zF, zF, fun _ => -9)) ++ (hsC 0 0 :: shT 35 10 10) ++ ([rowC 107, ia 6 zF]) ++ (shT 109 2 2) ++ ([rowC 125, ia 6 zF])))) (a := 127) (k := 0) (n := 6) rfl (by decide) rfl rfl)) (Nat.le_of_ble_eq_true rfl) rfl rfl ?_
  refine j_putF (pc := 136) dX6_init_136 fl_X6_68 rfl (fun q e => by cases e; rfl) (jfit_r _ _) rfl (show _ = (scr :: (6, [.ref 2, .int 0, .ref 4, .ref 5, .ref 16, .ref 27, .ref 34, .ref 107, .ref 109, .int 0, .ref 125, .ref 127, .int 0, .long 0]) :: ([rowC 2, ia 150 zF] ++ ([rdC (0, 0, 0, 0, 0, false, false, false)]) ++ (paL 5 pV) ++ (paL 16 pV) ++ (scL 27 (0, 0, 2, zF, zF, fun _ => -9)) ++ (hsC 0 0 :: shT 35 10 10) ++ ([rowC 107, ia 6 zF]) ++ (shT 109 2 2) ++ ([rowC 125, ia 6 zF]) ++ ([rowC 127, ia 6 zF]))) from rfl) ?_
  refine j_return (pc := 139) dX6_init_139 rfl ?_
  exact ⟨rfl, rfl⟩

end

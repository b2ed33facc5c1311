/-! scenes, shelves, parishes on any heap -/
section
variable {g : GG} {h : List AC} {Q : Option Value → List AC → Prop}
def atSc (h : List AC) (a : Nat) (v : ScV) : Prop := h[a]? = some (scC a v) ∧ h[a + 1]? = some (rowC (a + 1)) ∧ h[a + 1 + 1]? = some (ia 6 v.2.2.2.1) ∧ h[a + 3]? = some (rowC (a + 3)) ∧ h[a + 3 + 1]? = some (ia 6 v.2.2.2.2.1) ∧ h[a + 5]? = some (rowC (a + 5)) ∧ h[a + 5 + 1]? = some (ia 6 v.2.2.2.2.2)
def setSc (h : List AC) (a : Nat) (v : ScV) : List AC := (((h.set a (scC a v)).set (a + 1 + 1) (ia 6 v.2.2.2.1)).set (a + 3 + 1) (ia 6 v.2.2.2.2.1)).set (a + 5 + 1) (ia 6 v.2.2.2.2.2)
def isCh (v : ScV) (i : Int32) : Bool := decide (¬ rAt 6 v.2.2.2.2.2 i = -9)
set_option maxRecDepth 20000 in
set_option maxHeartbeats 1000000 in
theorem c_isChalked {a : Nat} {v : ScV} {i : Int32} (hs : atSc h a v) : CD g 1 mX4_isChalked [.ref a, .int i] h (some (.int (b2i (isCh v i)))) h := by
  obtain ⟨s0, s1, s2, s3, s4, s5, s6⟩ := hs
  refine C.of (by decide +kernel) (by simp [Value.category]) (Nat.le_of_ble_eq_true rfl) ?_
  change J g mX4_isChalked 1 0 0 _ h 0 [some (.ref a), some (.int i)] []
  refine j_aload_n (pc := 0) dX4_isChalked_0 rfl ?_
  refine j_getf (pc := 1) dX4_isChalked_1 fl_X4_23 (by assumption) rfl ?_
  refine j_iload_n (pc := 4) dX4_isChalked_4 rfl ?_
  refine j_v1 (pc := 5) (ci := 3) dX4_isChalked_5 mc_X3_at ml_X4_48 im_X3_at se_X3_at rfl rfl (by assumption) (by omega) (c_at (n := 6) (by decide) (by assumption) (by assumption)) (Nat.le_of_ble_eq_true rfl) ?_
  refine j_bipush (pc := 8) dX4_isChalked_8 kb_m9 ?_
  refine j_icmp_eq (pc := 10) (tgt := 17) dX4_isChalked_10 rfl (fun zc10 => ?_) (fun zc10 => ?_)
  · refine j_iconst (pc := 17) dX4_isChalked_17 kc_0 ?_
    refine j_zret (pc := 18) (b := isCh v i) dX4_isChalked_18 rfl (by simp [isCh, b2i, *]) ?_
    exact ⟨rfl, rfl⟩
  · refine j_iconst (pc := 13) dX4_isChalked_13 kc_1 ?_
    refine j_goto (pc := 14) (tgt := 18) dX4_isChalked_14 rfl ?_
    refine j_zret (pc := 18) (b := isCh v i) dX4_isChalked_18 rfl (by simp [isCh, b2i, *]) ?_
    exact ⟨rfl, rfl⟩

set_option maxRecDepth 20000 in
set_option maxHeartbeats 1000000 in
theorem c_scCopy {a b : Nat} {v w : ScV} (hs : atSc h a v) (hw : atSc h b w) (hab : a + 7 ≤ b ∨ b + 7 ≤ a) : CD g 2 mX4_copyFrom [.ref a, .ref b] h none (setSc h a w) := by
  obtain ⟨s0, s1, s2, s3, s4, s5, s6⟩ := hs
  obtain ⟨w0, w1, w2, w3, w4, w5, w6⟩ := hw
  refine C.of (by decide +kernel) (by simp [Value.category]) (Nat.le_of_ble_eq_true rfl) ?_
  change J g mX4_copyFrom 2 0 0 _ h 0 [some (.ref a), some (.ref b)] []
  refine j_aload_n (pc := 0) dX4_copyFrom_0 rfl ?_
  refine j_aload_n (pc := 1) dX4_copyFrom_1 rfl ?_
  refine j_getf (pc := 2) dX4_copyFrom_2 fl_X4_26 (by first | assumption | exact get_eq (by assumption) | exact get_ne2 (by assumption) (by omega) | exact get_ne2 (get_eq (by assumption)) (by omega) | exact get_ne2 (get_ne2 (by assumption) (by omega)) (by omega) | exact get_ne2 (get_ne2 (get_eq (by assumption)) (by omega)) (by omega) | exact get_ne2 (get_ne2 (get_ne2 (by assumption) (by omega)) (by omega)) (by omega) | exact get_ne2 (get_ne2 (get_ne2 (get_eq (by assumption)) (by omega)) (by omega)) (by omega)) rfl ?_
  refine j_putf (pc := 5) dX4_copyFrom_5 fl_X4_26 (jfit_i _) (by first | assumption | exact get_eq (by assumption) | exact get_ne2 (by assumption) (by omega) | exact get_ne2 (get_eq (by assumption)) (by omega) | exact get_ne2 (get_ne2 (by assumption) (by omega)) (by omega) | exact get_ne2 (get_ne2 (get_eq (by assumption)) (by omega)) (by omega) | exact get_ne2 (get_ne2 (get_ne2 (by assumption) (by omega)) (by omega)) (by omega) | exact get_ne2 (get_ne2 (get_ne2 (get_eq (by assumption)) (by omega)) (by omega)) (by omega)) rfl ?_
  refine j_aload_n (pc := 8) dX4_copyFrom_8 rfl ?_
  refine j_aload_n (pc := 9) dX4_copyFrom_9 rfl ?_
  refine j_getf (pc := 10) dX4_copyFrom_10 fl_X4_30 (by first | assumption | exact get_eq (by assumption) | exact get_ne2 (by assumption) (by omega) | exact get_ne2 (get_eq (by assumption)) (by omega) | exact get_ne2 (get_ne2 (by assumption) (by omega)) (by omega) | exact get_ne2 (get_ne2 (get_eq (by assumption)) (by omega)) (by omega) | exact get_ne2 (get_ne2 (get_ne2 (by assumption) (by omega)) (by omega)) (by omega) | exact get_ne2 (get_ne2 (get_ne2 (get_eq (by assumption)) (by omega)) (by omega)) (by omega)) rfl ?_
  refine j_putf (pc := 13) dX4_copyFrom_13 fl_X4_30 (jfit_i _) (by first | assumption | exact get_eq (by assumption) | exact get_ne2 (by assumption) (by omega) | exact get_ne2 (get_eq (by assumption)) (by omega) | exact get_ne2 (get_ne2 (by assumption) (by omega)) (by omega) | exact get_ne2 (get_ne2 (get_eq (by assumption)) (by omega)) (by omega) | exact get_ne2 (get_ne2 (get_ne2 (by assumption) (by omega)) (by omega)) (by omega) | exact get_ne2 (get_ne2 (get_ne2 (get_eq (by assumption)) (by omega)) (by omega)) (by omega)) (List.set_set _) ?_
  refine j_aload_n (pc := 16) dX4_copyFrom_16 rfl ?_
  refine j_aload_n (pc := 17) dX4_copyFrom_17 rfl ?_
  refine j_getf (pc := 18) dX4_copyFrom_18 fl_X4_38 (by first | assumption | exact get_eq (by assumption) | exact get_ne2 (by assumption) (by omega) | exact get_ne2 (get_eq (by assumption)) (by omega) | exact get_ne2 (get_ne2 (by assumption) (by omega)) (by omega) | exact get_ne2 (get_ne2 (get_eq (by assumption)) (by omega)) (by omega) | exact get_ne2 (get_ne2 (get_ne2 (by assumption) (by omega)) (by omega)) (by omega) | exact get_ne2 (get_ne2 (get_ne2 (get_eq (by assumption)) (by omega)) (by omega)) (by omega)) rfl ?_
  refine j_putf (pc := 21) dX4_copyFrom_21 fl_X4_38 (jfit_i _) (by first | assumption | exact get_eq (by assumption) | exact get_ne2 (by assumption) (by omega) | exact get_ne2 (get_eq (by assumption)) (by omega) | exact get_ne2 (get_ne2 (by assumption) (by omega)) (by omega) | exact get_ne2 (get_ne2 (get_eq (by assumption)) (by omega)) (by omega) | exact get_ne2 (get_ne2 (get_ne2 (by assumption) (by omega)) (by omega)) (by omega) | exact get_ne2 (get_ne2 (get_ne2 (get_eq (by assumption)) (by omega)) (by omega)) (by omega)) (List.set_set _) ?_
  refine j_aload_n (pc := 24) dX4_copyFrom_24 rfl ?_
  refine j_getf (pc := 25) dX4_copyFrom_25 fl_X4_14 (by first | assumption | exact get_eq (by assumption) | exact get_ne2 (by assumption) (by omega) | exact get_ne2 (get_eq (by assumption)) (by omega) | exact get_ne2 (get_ne2 (by assumption) (by omega)) (by omega) | exact get_ne2 (get_ne2 (get_eq (by assumption)) (by omega)) (by omega) | exact get_ne2 (get_ne2 (get_ne2 (by assumption) (by omega)) (by omega)) (by omega) | exact get_ne2 (get_ne2 (get_ne2 (get_eq (by assumption)) (by omega)) (by omega)) (by omega)) rfl ?_
  refine j_aload_n (pc := 28) dX4_copyFrom_28 rfl ?_
  refine j_getf (pc := 29) dX4_copyFrom_29 fl_X4_14 (by first | assumption | exact get_eq (by assumption) | exact get_ne2 (by assumption) (by omega) | exact get_ne2 (get_eq (by assumption)) (by omega) | exact get_ne2 (get_ne2 (by assumption) (by omega)) (by omega) | exact get_ne2 (get_ne2 (get_eq (by assumption)) (by omega)) (by omega) | exact get_ne2 (get_ne2 (get_ne2 (by assumption) (by omega)) (by omega)) (by omega) | exact get_ne2 (get_ne2 (get_ne2 (get_eq (by assumption)) (by omega)) (by omega)) (by omega)) rfl ?_
  refine j_v1n (pc := 32) (ci := 3) dX4_copyFrom_32 mc_X3_copyFrom ml_X4_40 im_X3_copyFrom se_X3_copyFrom rfl rfl (by first | assumption | exact get_eq (by assumption) | exact get_ne2 (by assumption) (by omega) | exact get_ne2 (get_eq (by assumption)) (by omega) | exact get_ne2 (get_ne2 (by assumption) (by omega)) (by omega) | exact get_ne2 (get_ne2 (get_eq (by assumption)) (by omega)) (by omega) | exact get_ne2 (get_ne2 (get_ne2 (by assumption) (by omega)) (by omega)) (by omega) | exact get_ne2 (get_ne2 (get_ne2 (get_eq (by assumption)) (by omega)) (by omega)) (by omega)) (by omega) (c_copyR (n := 6) (by decide) (by first | assumption | exact get_eq (by assumption) | exact get_ne2 (by assumption) (by omega) | exact get_ne2 (get_eq (by assumption)) (by omega) | exact get_ne2 (get_ne2 (by assumption) (by omega)) (by omega) | exact get_ne2 (get_ne2 (get_eq (by assumption)) (by omega)) (by omega) | exact get_ne2 (get_ne2 (get_ne2 (by assumption) (by omega)) (by omega)) (by omega) | exact get_ne2 (get_ne2 (get_ne2 (get_eq (by assumption)) (by omega)) (by omega)) (by omega)) (by first | assumption | exact get_eq (by assumption) | exact get_ne2 (by assumption) (by omega) | exact get_ne2 (get_eq (by assumption)) (by omega) | exact get_ne2 (get_ne2 (by assumption) (by omega)) (by omega) | exact get_ne2 (get_ne2 (get_eq (by assumption)) (by omega)) (by omega) | exact get_ne2 (get_ne2 (get_ne2 (by assumption) (by omega)) (by omega)) (by omega) | exact get_ne2 (get_ne2 (get_ne2 (get_eq (by assumption)) (by omega)) (by omega)) (by omega)) (by first | assumption | exact get_eq (by assumption) | exact get_ne2 (by assumption) (by omega) | exact get_ne2 (get_eq (by assumption)) (by omega) | exact get_ne2 (get_ne2 (by assumption) (by omega)) (by omega) | exact get_ne2 (get_ne2 (get_eq (by assumption)) (by omega)) (by omega) | exact get_ne2 (get_ne2 (get_ne2 (by assumption) (by omega)) (by omega)) (by omega) | exact get_ne2 (get_ne2 (get_ne2 (get_eq (by assumption)) (by omega)) (by omega)) (by omega)) (by first | assumption | exact get_eq (by assumption) | exact get_ne2 (by assumption) (by omega) | exact get_ne2 (get_eq (by assumption)) (by omega) | exact get_ne2 (get_ne2 (by assumption) (by omega)) (by omega) | exact get_ne2 (get_ne2 (get_eq (by assumption)) (by omega)) (by omega) | exact get_ne2 (get_ne2 (get_ne2 (by assumption) (by omega)) (by omega)) (by omega) | exact get_ne2 (get_ne2 (get_ne2 (get_eq (by assumption)) (by omega)) (by omega)) (by omega)) (by omega)) (Nat.le_of_ble_eq_true rfl) ?_
  refine j_aload_n (pc := 35) dX4_copyFrom_35 rfl ?_
  refine j_getf (pc := 36) dX4_copyFrom_36 fl_X4_20 (by first | assumption | exact get_eq (by assumption) | exact get_ne2 (by assumption) (by omega) | exact get_ne2 (get_eq (by assumption)) (by omega) | exact get_ne2 (get_ne2 (by assumption) (by omega)) (by omega) | exact get_ne2 (get_ne2 (get_eq (by assumption)) (by omega)) (by omega) | exact get_ne2 (get_ne2 (get_ne2 (by assumption) (by omega)) (by omega)) (by omega) | exact get_ne2 (get_ne2 (get_ne2 (get_eq (by assumption)) (by omega)) (by omega)) (by omega)) rfl ?_
  refine j_aload_n (pc := 39) dX4_copyFrom_39 rfl ?_
  refine j_getf (pc := 40) dX4_copyFrom_40 fl_X4_20 (by first | assumption | exact get_eq (by assumption) | exact get_ne2 (by assumption) (by omega) | exact get_ne2 (get_eq (by assumption)) (by omega) | exact get_ne2 (get_ne2 (by assumption) (by omega)) (by omega) | exact get_ne2 (get_ne2 (get_eq (by assumption)) (by omega)) (by omega) | exact get_ne2 (get_ne2 (get_ne2 (by assumption) (by omega)) (by omega)) (by omega) | exact get_ne2 (get_ne2 (get_ne2 (get_eq (by assumption)) (by omega)) (by omega)) (by omega)) rfl ?_
  refine j_v1n (pc := 43) (ci := 3) dX4_copyFrom_43 mc_X3_copyFrom ml_X4_40 im_X3_copyFrom se_X3_copyFrom rfl rfl (by first | assumption | exact get_eq (by assumption) | exact get_ne2 (by assumption) (by omega) | exact get_ne2 (get_eq (by assumption)) (by omega) | exact get_ne2 (get_ne2 (by assumption) (by omega)) (by omega) | exact get_ne2 (get_ne2 (get_eq (by assumption)) (by omega)) (by omega) | exact get_ne2 (get_ne2 (get_ne2 (by assumption) (by omega)) (by omega)) (by omega) | exact get_ne2 (get_ne2 (get_ne2 (get_eq (by assumption)) (by omega)) (by omega)) (by omega)) (by omega) (c_copyR (n := 6) (by decide) (by first | assumption | exact get_eq (by assumption) | exact get_ne2 (by assumption) (by omega) | exact get_ne2 (get_eq (by assumption)) (by omega) | exact get_ne2 (get_ne2 (by assumption) (by omega)) (by omega) | exact get_ne2 (get_ne2 (get_eq (by assumption)) (by omega)) (by omega) | exact get_ne2 (get_ne2 (get_ne2 (by assumption) (by omega)) (by omega)) (by omega) | exact get_ne2 (get_ne2 (get_ne2 (get_eq (by assumption)) (by omega)) (by omega)) (by omega)) (by first | assumption | exact get_eq (by assumption) | exact get_ne2 (by assumption) (by omega) | exact get_ne2 (get_eq (by assumption)) (by omega) | exact get_ne2 (get_ne2 (by assumption) (by omega)) (by omega) | exact get_ne2 (get_ne2 (get_eq (by assumption)) (by omega)) (by omega) | exact get_ne2 (get_ne2 (get_ne2 (by assumption) (by omega)) (by omega)) (by omega) | exact get_ne2 (get_ne2 (get_ne2 (get_eq (by assumption)) (by omega)) (by omega)) (by omega)) (by first | assumption | exact get_eq (by assumption) | exact get_ne2 (by assumption) (by omega) | exact get_ne2 (get_eq (by assumption)) (by omega) | exact get_ne2 (get_ne2 (by assumption) (by omega)) (by omega) | exact get_ne2 (get_ne2 (get_eq (by assumption)) (by omega)) (by omega) | exact get_ne2 (get_ne2 (get_ne2 (by assumption) (by omega)) (by omega)) (by omega) | exact get_ne2 (get_ne2 (get_ne2 (get_eq (by assumption)) (by omega)) (by omega)) (by omega)) (by first | assumption | exact get_eq (by assumption) | exact get_ne2 (by assumption) (by omega) | exact get_ne2 (get_eq (by assumption)) (by omega) | exact get_ne2 (get_ne2 (by assumption) (by omega)) (by omega) | exact get_ne2 (get_ne2 (get_eq (by assumption)) (by omega)) (by omega) | exact get_ne2 (get_ne2 (get_ne2 (by assumption) (by omega)) (by omega)) (by omega) | exact get_ne2 (get_ne2 (get_ne2 (get_eq (by assumption)) (by omega)) (by omega)) (by omega)) (by omega)) (Nat.le_of_ble_eq_true rfl) ?_
  refine j_aload_n (pc := 46) dX4_copyFrom_46 rfl ?_
  refine j_getf (pc := 47) dX4_copyFrom_47 fl_X4_23 (by first | assumption | exact get_eq (by assumption) | exact get_ne2 (by assumption) (by omega) | exact get_ne2 (get_eq (by assumption)) (by omega) | exact get_ne2 (get_ne2 (by assumption) (by omega)) (by omega) | exact get_ne2 (get_ne2 (get_eq (by assumption)) (by omega)) (by omega) | exact get_ne2 (get_ne2 (get_ne2 (by assumption) (by omega)) (by omega)) (by omega) | exact get_ne2 (get_ne2 (get_ne2 (get_eq (by assumption)) (by omega)) (by omega)) (by omega)) rfl ?_
  refine j_aload_n (pc := 50) dX4_copyFrom_50 rfl ?_
  refine j_getf (pc := 51) dX4_copyFrom_51 fl_X4_23 (by first | assumption | exact get_eq (by assumption) | exact get_ne2 (by assumption) (by omega) | exact get_ne2 (get_eq (by assumption)) (by omega) | exact get_ne2 (get_ne2 (by assumption) (by omega)) (by omega) | exact get_ne2 (get_ne2 (get_eq (by assumption)) (by omega)) (by omega) | exact get_ne2 (get_ne2 (get_ne2 (by assumption) (by omega)) (by omega)) (by omega) | exact get_ne2 (get_ne2 (get_ne2 (get_eq (by assumption)) (by omega)) (by omega)) (by omega)) rfl ?_
  refine j_v1n (pc := 54) (ci := 3) dX4_copyFrom_54 mc_X3_copyFrom ml_X4_40 im_X3_copyFrom se_X3_copyFrom rfl rfl (by first | assumption | exact get_eq (by assumption) | exact get_ne2 (by assumption) (by omega) | exact get_ne2 (get_eq (by assumption)) (by omega) | exact get_ne2 (get_ne2 (by assumption) (by omega)) (by omega) | exact get_ne2 (get_ne2 (get_eq (by assumption)) (by omega)) (by omega) | exact get_ne2 (get_ne2 (get_ne2 (by assumption) (by omega)) (by omega)) (by omega) | exact get_ne2 (get_ne2 (get_ne2 (get_eq (by assumption)) (by omega)) (by omega)) (by omega)) (by omega) (c_copyR (n := 6) (by decide) (by first | assumption | exact get_eq (by assumption) | exact get_ne2 (by assumption) (by omega) | exact get_ne2 (get_eq (by assumption)) (by omega) | exact get_ne2 (get_ne2 (by assumption) (by omega)) (by omega) | exact get_ne2 (get_ne2 (get_eq (by assumption)) (by omega)) (by omega) | exact get_ne2 (get_ne2 (get_ne2 (by assumption) (by omega)) (by omega)) (by omega) | exact get_ne2 (get_ne2 (get_ne2 (get_eq (by assumption)) (by omega)) (by omega)) (by omega)) (by first | assumption | exact get_eq (by assumption) | exact get_ne2 (by assumption) (by omega) | exact get_ne2 (get_eq (by assumption)) (by omega) | exact get_ne2 (get_ne2 (by assumption) (by omega)) (by omega) | exact get_ne2 (get_ne2 (get_eq (by assumption)) (by omega)) (by omega) | exact get_ne2 (get_ne2 (get_ne2 (by assumption) (by omega)) (by omega)) (by omega) | exact get_ne2 (get_ne2 (get_ne2 (get_eq (by assumption)) (by omega)) (by omega)) (by omega)) (by first | assumption | exact get_eq (by assumption) | exact get_ne2 (by assumption) (by omega) | exact get_ne2 (get_eq (by assumption)) (by omega) | exact get_ne2 (get_ne2 (by assumption) (by omega)) (by omega) | exact get_ne2 (get_ne2 (get_eq (by assumption)) (by omega)) (by omega) | exact get_ne2 (get_ne2 (get_ne2 (by assumption) (by omega)) (by omega)) (by omega) | exact get_ne2 (get_ne2 (get_ne2 (get_eq (by assumption)) (by omega)) (by omega)) (by omega)) (by first | assumption | exact get_eq (by assumption) | exact get_ne2 (by assumption) (by omega) | exact get_ne2 (get_eq (by assumption)) (by omega) | exact get_ne2 (get_ne2 (by assumption) (by omega)) (by omega) | exact get_ne2 (get_ne2 (get_eq (by assumption)) (by omega)) (by omega) | exact get_ne2 (get_ne2 (get_ne2 (by assumption) (by omega)) (by omega)) (by omega) | exact get_ne2 (get_ne2 (get_ne2 (get_eq (by assumption)) (by omega)) (by omega)) (by omega)) (by omega)) (Nat.le_of_ble_eq_true rfl) ?_
  refine j_return (pc := 57) dX4_copyFrom_57 rfl ?_
  exact ⟨rfl, rfl⟩

set_option maxRecDepth 20000 in
set_option maxHeartbeats 1000000 in
theorem c_scBegin {a b : Nat} {v : ScV} {w : ParV} (hs : atSc h a v) (hab : a + 7 ≤ b ∨ b + 11 ≤ a) (p0 : h[b]? = some (paC b w)) (p1 : h[b + 5]? = some (rowC (b + 5))) (p2 : h[b + 5 + 1]? = some (ia 6 w.2.2.2.2.2.2.2.2.1)) (p3 : h[b + 7]? = some (rowC (b + 7))) (p4 : h[b + 7 + 1]? = some (ia 6 w.2.2.2.2.2.2.2.2.2.1)) : CD g 2 mX4_begin [.ref a, .ref b] h none (setSc h a (0, 0, w.2.2.2.2.2.1, w.2.2.2.2.2.2.2.2.1, w.2.2.2.2.2.2.2.2.2.1, fun _ => -9)) := by
  obtain ⟨s0, s1, s2, s3, s4, s5, s6⟩ := hs
  refine C.of (by decide +kernel) (by simp [Value.category]) (Nat.le_of_ble_eq_true rfl) ?_
  change J g mX4_begin 2 0 0 _ h 0 [some (.ref a), some (.ref b)] []
  refine j_aload_n (pc := 0) dX4_begin_0 rfl ?_
  refine j_iconst (pc := 1) dX4_begin_1 kc_0 ?_
  refine j_putf (pc := 2) dX4_begin_2 fl_X4_26 (jfit_i _) (by first | assumption | exact get_eq (by assumption) | exact get_ne2 (by assumption) (by omega) | exact get_ne2 (get_eq (by assumption)) (by omega) | exact get_ne2 (get_ne2 (by assumption) (by omega)) (by omega) | exact get_ne2 (get_ne2 (get_eq (by assumption)) (by omega)) (by omega) | exact get_ne2 (get_ne2 (get_ne2 (by assumption) (by omega)) (by omega)) (by omega) | exact get_ne2 (get_ne2 (get_ne2 (get_eq (by assumption)) (by omega)) (by omega)) (by omega)) rfl ?_
  refine j_aload_n (pc := 5) dX4_begin_5 rfl ?_
  refine j_iconst (pc := 6) dX4_begin_6 kc_0 ?_
  refine j_putf (pc := 7) dX4_begin_7 fl_X4_30 (jfit_i _) (by first | assumption | exact get_eq (by assumption) | exact get_ne2 (by assumption) (by omega) | exact get_ne2 (get_eq (by assumption)) (by omega) | exact get_ne2 (get_ne2 (by assumption) (by omega)) (by omega) | exact get_ne2 (get_ne2 (get_eq (by assumption)) (by omega)) (by omega) | exact get_ne2 (get_ne2 (get_ne2 (by assumption) (by omega)) (by omega)) (by omega) | exact get_ne2 (get_ne2 (get_ne2 (get_eq (by assumption)) (by omega)) (by omega)) (by omega)) (List.set_set _) ?_
  refine j_aload_n (pc := 10) dX4_begin_10 rfl ?_
  refine j_aload_n (pc := 11) dX4_begin_11 rfl ?_
  refine j_getf (pc := 12) dX4_begin_12 fl_X4_33 (by first | assumption | exact get_eq (by assumption) | exact get_ne2 (by assumption) (by omega) | exact get_ne2 (get_eq (by assumption)) (by omega) | exact get_ne2 (get_ne2 (by assumption) (by omega)) (by omega) | exact get_ne2 (get_ne2 (get_eq (by assumption)) (by omega)) (by omega) | exact get_ne2 (get_ne2 (get_ne2 (by assumption) (by omega)) (by omega)) (by omega) | exact get_ne2 (get_ne2 (get_ne2 (get_eq (by assumption)) (by omega)) (by omega)) (by omega)) rfl ?_
  refine j_putf (pc := 15) dX4_begin_15 fl_X4_38 (jfit_i _) (by first | assumption | exact get_eq (by assumption) | exact get_ne2 (by assumption) (by omega) | exact get_ne2 (get_eq (by assumption)) (by omega) | exact get_ne2 (get_ne2 (by assumption) (by omega)) (by omega) | exact get_ne2 (get_ne2 (get_eq (by assumption)) (by omega)) (by omega) | exact get_ne2 (get_ne2 (get_ne2 (by assumption) (by omega)) (by omega)) (by omega) | exact get_ne2 (get_ne2 (get_ne2 (get_eq (by assumption)) (by omega)) (by omega)) (by omega)) (List.set_set _) ?_
  refine j_aload_n (pc := 18) dX4_begin_18 rfl ?_
  refine j_getf (pc := 19) dX4_begin_19 fl_X4_14 (by first | assumption | exact get_eq (by assumption) | exact get_ne2 (by assumption) (by omega) | exact get_ne2 (get_eq (by assumption)) (by omega) | exact get_ne2 (get_ne2 (by assumption) (by omega)) (by omega) | exact get_ne2 (get_ne2 (get_eq (by assumption)) (by omega)) (by omega) | exact get_ne2 (get_ne2 (get_ne2 (by assumption) (by omega)) (by omega)) (by omega) | exact get_ne2 (get_ne2 (get_ne2 (get_eq (by assumption)) (by omega)) (by omega)) (by omega)) rfl ?_
  refine j_aload_n (pc := 22) dX4_begin_22 rfl ?_
  refine j_getf (pc := 23) dX4_begin_23 fl_X4_39 (by first | assumption | exact get_eq (by assumption) | exact get_ne2 (by assumption) (by omega) | exact get_ne2 (get_eq (by assumption)) (by omega) | exact get_ne2 (get_ne2 (by assumption) (by omega)) (by omega) | exact get_ne2 (get_ne2 (get_eq (by assumption)) (by omega)) (by omega) | exact get_ne2 (get_ne2 (get_ne2 (by assumption) (by omega)) (by omega)) (by omega) | exact get_ne2 (get_ne2 (get_ne2 (get_eq (by assumption)) (by omega)) (by omega)) (by omega)) rfl ?_
  refine j_v1n (pc := 26) (ci := 3) dX4_begin_26 mc_X3_copyFrom ml_X4_40 im_X3_copyFrom se_X3_copyFrom rfl rfl (by first | assumption | exact get_eq (by assumption) | exact get_ne2 (by assumption) (by omega) | exact get_ne2 (get_eq (by assumption)) (by omega) | exact get_ne2 (get_ne2 (by assumption) (by omega)) (by omega) | exact get_ne2 (get_ne2 (get_eq (by assumption)) (by omega)) (by omega) | exact get_ne2 (get_ne2 (get_ne2 (by assumption) (by omega)) (by omega)) (by omega) | exact get_ne2 (get_ne2 (get_ne2 (get_eq (by assumption)) (by omega)) (by omega)) (by omega)) (by omega) (c_copyR (n := 6) (by decide) (by first | assumption | exact get_eq (by assumption) | exact get_ne2 (by assumption) (by omega) | exact get_ne2 (get_eq (by assumption)) (by omega) | exact get_ne2 (get_ne2 (by assumption) (by omega)) (by omega) | exact get_ne2 (get_ne2 (get_eq (by assumption)) (by omega)) (by omega) | exact get_ne2 (get_ne2 (get_ne2 (by assumption) (by omega)) (by omega)) (by omega) | exact get_ne2 (get_ne2 (get_ne2 (get_eq (by assumption)) (by omega)) (by omega)) (by omega)) (by first | assumption | exact get_eq (by assumption) | exact get_ne2 (by assumption) (by omega) | exact get_ne2 (get_eq (by assumption)) (by omega) | exact get_ne2 (get_ne2 (by assumption) (by omega)) (by omega) | exact get_ne2 (get_ne2 (get_eq (by assumption)) (by omega)) (by omega) | exact get_ne2 (get_ne2 (get_ne2 (by assumption) (by omega)) (by omega)) (by omega) | exact get_ne2 (get_ne2 (get_ne2 (get_eq (by assumption)) (by omega)) (by omega)) (by omega)) (by first | assumption | exact get_eq (by assumption) | exact get_ne2 (by assumption) (by omega) | exact get_ne2 (get_eq (by assumption)) (by omega) | exact get_ne2 (get_ne2 (by assumption) (by omega)) (by omega) | exact get_ne2 (get_ne2 (get_eq (by assumption)) (by omega)) (by omega) | exact get_ne2 (get_ne2 (get_ne2 (by assumption) (by omega)) (by omega)) (by omega) | exact get_ne2 (get_ne2 (get_ne2 (get_eq (by assumption)) (by omega)) (by omega)) (by omega)) (by first | assumption | exact get_eq (by assumption) | exact get_ne2 (by assumption) (by omega) | exact get_ne2 (get_eq (by assumption)) (by omega) | exact get_ne2 (get_ne2 (by assumption) (by omega)) (by omega) | exact get_ne2 (get_ne2 (get_eq (by assumption)) (by omega)) (by omega) | exact get_ne2 (get_ne2 (get_ne2 (by assumption) (by omega)) (by omega)) (by omega) | exact get_ne2 (get_ne2 (get_ne2 (get_eq (by assumption)) (by omega)) (by omega)) (by omega)) (by omega)) (Nat.le_of_ble_eq_true rfl) ?_
  refine j_aload_n (pc := 29) dX4_begin_29 rfl ?_
  refine j_getf (pc := 30) dX4_begin_30 fl_X4_20 (by first | assumption | exact get_eq (by assumption) | exact get_ne2 (by assumption) (by omega) | exact get_ne2 (get_eq (by assumption)) (by omega) | exact get_ne2 (get_ne2 (by assumption) (by omega)) (by omega) | exact get_ne2 (get_ne2 (get_eq (by assumption)) (by omega)) (by omega) | exact get_ne2 (get_ne2 (get_ne2 (by assumption) (by omega)) (by omega)) (by omega) | exact get_ne2 (get_ne2 (get_ne2 (get_eq (by assumption)) (by omega)) (by omega)) (by omega)) rfl ?_
  refine j_aload_n (pc := 33) dX4_begin_33 rfl ?_
  refine j_getf (pc := 34) dX4_begin_34 fl_X4_44 (by first | assumption | exact get_eq (by assumption) | exact get_ne2 (by assumption) (by omega) | exact get_ne2 (get_eq (by assumption)) (by omega) | exact get_ne2 (get_ne2 (by assumption) (by omega)) (by omega) | exact get_ne2 (get_ne2 (get_eq (by assumption)) (by omega)) (by omega) | exact get_ne2 (get_ne2 (get_ne2 (by assumption) (by omega)) (by omega)) (by omega) | exact get_ne2 (get_ne2 (get_ne2 (get_eq (by assumption)) (by omega)) (by omega)) (by omega)) rfl ?_
  refine j_v1n (pc := 37) (ci := 3) dX4_begin_37 mc_X3_copyFrom ml_X4_40 im_X3_copyFrom se_X3_copyFrom rfl rfl (by first | assumption | exact get_eq (by assumption) | exact get_ne2 (by assumption) (by omega) | exact get_ne2 (get_eq (by assumption)) (by omega) | exact get_ne2 (get_ne2 (by assumption) (by omega)) (by omega) | exact get_ne2 (get_ne2 (get_eq (by assumption)) (by omega)) (by omega) | exact get_ne2 (get_ne2 (get_ne2 (by assumption) (by omega)) (by omega)) (by omega) | exact get_ne2 (get_ne2 (get_ne2 (get_eq (by assumption)) (by omega)) (by omega)) (by omega)) (by omega) (c_copyR (n := 6) (by decide) (by first | assumption | exact get_eq (by assumption) | exact get_ne2 (by assumption) (by omega) | exact get_ne2 (get_eq (by assumption)) (by omega) | exact get_ne2 (get_ne2 (by assumption) (by omega)) (by omega) | exact get_ne2 (get_ne2 (get_eq (by assumption)) (by omega)) (by omega) | exact get_ne2 (get_ne2 (get_ne2 (by assumption) (by omega)) (by omega)) (by omega) | exact get_ne2 (get_ne2 (get_ne2 (get_eq (by assumption)) (by omega)) (by omega)) (by omega)) (by first | assumption | exact get_eq (by assumption) | exact get_ne2 (by assumption) (by omega) | exact get_ne2 (get_eq (by assumption)) (by omega) | exact get_ne2 (get_ne2 (by assumption) (by omega)) (by omega) | exact get_ne2 (get_ne2 (get_eq (by assumption)) (by omega)) (by omega) | exact get_ne2 (get_ne2 (get_ne2 (by assumption) (by omega)) (by omega)) (by omega) | exact get_ne2 (get_ne2 (get_ne2 (get_eq (by assumption)) (by omega)) (by omega)) (by omega)) (by first | assumption | exact get_eq (by assumption) | exact get_ne2 (by assumption) (by omega) | exact get_ne2 (get_eq (by assumption)) (by omega) | exact get_ne2 (get_ne2 (by assumption) (by omega)) (by omega) | exact get_ne2 (get_ne2 (get_eq (by assumption)) (by omega)) (by omega) | exact get_ne2 (get_ne2 (get_ne2 (by assumption) (by omega)) (by omega)) (by omega) | exact get_ne2 (get_ne2 (get_ne2 (get_eq (by assumption)) (by omega)) (by omega)) (by omega)) (by first | assumption | exact get_eq (by assumption) | exact get_ne2 (by assumption) (by omega) | exact get_ne2 (get_eq (by assumption)) (by omega) | exact get_ne2 (get_ne2 (by assumption) (by omega)) (by omega) | exact get_ne2 (get_ne2 (get_eq (by assumption)) (by omega)) (by omega) | exact get_ne2 (get_ne2 (get_ne2 (by assumption) (by omega)) (by omega)) (by omega) | exact get_ne2 (get_ne2 (get_ne2 (get_eq (by assumption)) (by omega)) (by omega)) (by omega)) (by omega)) (Nat.le_of_ble_eq_true rfl) ?_
  refine j_aload_n (pc := 40) dX4_begin_40 rfl ?_
  refine j_getf (pc := 41) dX4_begin_41 fl_X4_23 (by first | assumption | exact get_eq (by assumption) | exact get_ne2 (by assumption) (by omega) | exact get_ne2 (get_eq (by assumption)) (by omega) | exact get_ne2 (get_ne2 (by assumption) (by omega)) (by omega) | exact get_ne2 (get_ne2 (get_eq (by assumption)) (by omega)) (by omega) | exact get_ne2 (get_ne2 (get_ne2 (by assumption) (by omega)) (by omega)) (by omega) | exact get_ne2 (get_ne2 (get_ne2 (get_eq (by assumption)) (by omega)) (by omega)) (by omega)) rfl ?_
  refine j_bipush (pc := 44) dX4_begin_44 kb_m9 ?_
  refine j_v1n (pc := 46) (ci := 3) dX4_begin_46 mc_X3_fill ml_X4_45 im_X3_fill se_X3_fill rfl rfl (by first | assumption | exact get_eq (by assumption) | exact get_ne2 (by assumption) (by omega) | exact get_ne2 (get_eq (by assumption)) (by omega) | exact get_ne2 (get_ne2 (by assumption) (by omega)) (by omega) | exact get_ne2 (get_ne2 (get_eq (by assumption)) (by omega)) (by omega) | exact get_ne2 (get_ne2 (get_ne2 (by assumption) (by omega)) (by omega)) (by omega) | exact get_ne2 (get_ne2 (get_ne2 (get_eq (by assumption)) (by omega)) (by omega)) (by omega)) (by omega) (c_fill (n := 6) (by decide) (by first | assumption | exact get_eq (by assumption) | exact get_ne2 (by assumption) (by omega) | exact get_ne2 (get_eq (by assumption)) (by omega) | exact get_ne2 (get_ne2 (by assumption) (by omega)) (by omega) | exact get_ne2 (get_ne2 (get_eq (by assumption)) (by omega)) (by omega) | exact get_ne2 (get_ne2 (get_ne2 (by assumption) (by omega)) (by omega)) (by omega) | exact get_ne2 (get_ne2 (get_ne2 (get_eq (by assumption)) (by omega)) (by omega)) (by omega)) (by first | assumption | exact get_eq (by assumption) | exact get_ne2 (by assumption) (by omega) | exact get_ne2 (get_eq (by assumption)) (by omega) | exact get_ne2 (get_ne2 (by assumption) (by omega)) (by omega) | exact get_ne2 (get_ne2 (get_eq (by assumption)) (by omega)) (by omega) | exact get_ne2 (get_ne2 (get_ne2 (by assumption) (by omega)) (by omega)) (by omega) | exact get_ne2 (get_ne2 (get_ne2 (get_eq (by assumption)) (by omega)) (by omega)) (by omega))) (Nat.le_of_ble_eq_true rfl) ?_
  refine j_return (pc := 49) dX4_begin_49 rfl ?_
  exact ⟨rfl, rfl⟩

set_option maxRecDepth 20000 in
set_option maxHeartbeats 1000000 in
theorem c_has {k r n j a : Nat} {vs : List Value} (hk : h[k]? = some (5, [.ref r])) (hr : h[r]? = some (10, vs)) (hn : vs.length = n) (hn2 : n < 1000) (hj : j < n) (hv : vs[j]? = some (.ref a)) : CD g 0 mX5_has [.ref k, .int (nI j)] h (some (.int (b2i true))) h := by
  refine C.of (by decide +kernel) (by simp [Value.category]) (Nat.le_of_ble_eq_true rfl) ?_
  change J g mX5_has 0 0 0 _ h 0 [some (.ref k), some (.int (nI j))] []
  refine j_iload_n (pc := 0) dX5_has_0 rfl ?_
  refine j_if_lt (pc := 1) (tgt := 26) dX5_has_1 rfl (fun zc1 => absurd zc1 (nI_pos (by omega))) (fun _ => ?_)
  refine j_iload_n (pc := 4) dX5_has_4 rfl ?_
  refine j_aload_n (pc := 5) dX5_has_5 rfl ?_
  refine j_getf (pc := 6) dX5_has_6 fl_X5_15 (by assumption) rfl ?_
  refine j_alen (pc := 9) dX5_has_9 (by assumption) rfl (by rw [hn]) ?_
  refine j_icmp_ge (pc := 10) (tgt := 26) dX5_has_10 rfl (fun zc10 => absurd zc10 (nI_ge (a := j) (b := n) (by omega) (by omega))) (fun _ => ?_)
  refine j_aload_n (pc := 13) dX5_has_13 rfl ?_
  refine j_getf (pc := 14) dX5_has_14 fl_X5_15 (by assumption) rfl ?_
  refine j_iload_n (pc := 17) dX5_has_17 rfl ?_
  refine j_aaldE (pc := 18) dX5_has_18 (by assumption) rfl (by assumption) (by assumption) (by omega) (by assumption) ?_
  refine j_ifnull (pc := 19) dX5_has_19 ?_
  refine j_iconst (pc := 22) dX5_has_22 kc_1 ?_
  refine j_goto (pc := 23) (tgt := 27) dX5_has_23 rfl ?_
  refine j_zret (pc := 27) (b := true) dX5_has_27 rfl rfl ?_
  exact ⟨rfl, rfl⟩

set_option maxRecDepth 20000 in
set_option maxHeartbeats 1000000 in
theorem c_shPut {k r n j a : Nat} {vs : List Value} {b : Nat} {v w : ScV} (hk : h[k]? = some (5, [.ref r])) (hr : h[r]? = some (10, vs)) (hn : vs.length = n) (hn2 : n < 1000) (hj : j < n) (hv : vs[j]? = some (.ref a)) (hs : atSc h a v) (hw : atSc h b w) (hab : a + 7 ≤ b ∨ b + 7 ≤ a) : CD g 3 mX5_put [.ref k, .int (nI j), .ref b] h none (setSc h a w) := by
  refine C.of (by decide +kernel) (by simp [Value.category]) (Nat.le_of_ble_eq_true rfl) ?_
  change J g mX5_put 3 0 0 _ h 0 [some (.ref k), some (.int (nI j)), some (.ref b)] []
  refine j_aload_n (pc := 0) dX5_put_0 rfl ?_
  refine j_iload_n (pc := 1) dX5_put_1 rfl ?_
  refine j_v1 (pc := 2) (ci := 5) dX5_put_2 mc_X5_has ml_X5_22 im_X5_has se_X5_has rfl rfl (by assumption) (by omega) (c_has hk hr hn hn2 hj hv) (Nat.le_of_ble_eq_true rfl) ?_
  refine j_beq (pc := 5) (tgt := 18) dX5_put_5 rfl (fun zc5 => by cases ((rfl : true = true)).symm.trans zc5) (fun _ => ?_)
  refine j_aload_n (pc := 8) dX5_put_8 rfl ?_
  refine j_getf (pc := 9) dX5_put_9 fl_X5_15 (by assumption) rfl ?_
  refine j_iload_n (pc := 12) dX5_put_12 rfl ?_
  refine j_aaldE (pc := 13) dX5_put_13 (by assumption) rfl (by assumption) (by assumption) (by omega) (by assumption) ?_
  refine j_aload_n (pc := 14) dX5_put_14 rfl ?_
  refine j_v1n (pc := 15) (ci := 4) dX5_put_15 mc_X4_copyFrom ml_X5_26 im_X4_copyFrom se_X4_copyFrom rfl rfl hs.1 (by omega) (c_scCopy hs hw hab) (Nat.le_of_ble_eq_true rfl) ?_
  refine j_return (pc := 18) dX5_put_18 rfl ?_
  exact ⟨rfl, rfl⟩

set_option maxRecDepth 20000 in
set_option maxHeartbeats 1000000 in
theorem c_shGet {k r n j a : Nat} {vs : List Value} {b : Nat} {v w : ScV} (hk : h[k]? = some (5, [.ref r])) (hr : h[r]? = some (10, vs)) (hn : vs.length = n) (hn2 : n < 1000) (hj : j < n) (hv : vs[j]? = some (.ref a)) (hs : atSc h a v) (hw : atSc h b w) (hab : b + 7 ≤ a ∨ a + 7 ≤ b) : CD g 3 mX5_copyTo [.ref k, .int (nI j), .ref b] h none (setSc h b v) := by
  refine C.of (by decide +kernel) (by simp [Value.category]) (Nat.le_of_ble_eq_true rfl) ?_
  change J g mX5_copyTo 3 0 0 _ h 0 [some (.ref k), some (.int (nI j)), some (.ref b)] []
  refine j_aload_n (pc := 0) dX5_copyTo_0 rfl ?_
  refine j_iload_n (pc := 1) dX5_copyTo_1 rfl ?_
  refine j_v1 (pc := 2) (ci := 5) dX5_copyTo_2 mc_X5_has ml_X5_22 im_X5_has se_X5_has rfl rfl (by assumption) (by omega) (c_has hk hr hn hn2 hj hv) (Nat.le_of_ble_eq_true rfl) ?_
  refine j_beq (pc := 5) (tgt := 18) dX5_copyTo_5 rfl (fun zc5 => by cases ((rfl : true = true)).symm.trans zc5) (fun _ => ?_)
  refine j_aload_n (pc := 8) dX5_copyTo_8 rfl ?_
  refine j_aload_n (pc := 9) dX5_copyTo_9 rfl ?_
  refine j_getf (pc := 10) dX5_copyTo_10 fl_X5_15 (by assumption) rfl ?_
  refine j_iload_n (pc := 13) dX5_copyTo_13 rfl ?_
  refine j_aaldE (pc := 14) dX5_copyTo_14 (by assumption) rfl (by assumption) (by assumption) (by omega) (by assumption) ?_
  refine j_v1n (pc := 15) (ci := 4) dX5_copyTo_15 mc_X4_copyFrom ml_X5_26 im_X4_copyFrom se_X4_copyFrom rfl rfl hw.1 (by omega) (c_scCopy hw hs hab) (Nat.le_of_ble_eq_true rfl) ?_
  refine j_return (pc := 18) dX5_copyTo_18 rfl ?_
  exact ⟨rfl, rfl⟩

set_option maxRecDepth 20000 in
set_option maxHeartbeats 1000000 in
theorem c_paBegin {a : Nat} {v : ParV} (hp : h[a]? = some (paC a v)) : CD g 0 mX1_begin [.ref a] h none (h.set a (paC a (0, 0, 0, 0, 80, 2, v.2.2.2.2.2.2))) := by
  refine C.of (by decide +kernel) (by simp [Value.category]) (Nat.le_of_ble_eq_true rfl) ?_
  change J g mX1_begin 0 0 0 _ h 0 [some (.ref a)] []
  refine j_aload_n (pc := 0) dX1_begin_0 rfl ?_
  refine j_iconst (pc := 1) dX1_begin_1 kc_0 ?_
  refine j_putf (pc := 2) dX1_begin_2 fl_X1_35 (jfit_i _) (by first | assumption | exact get_eq (by assumption) | exact get_ne2 (by assumption) (by omega) | exact get_ne2 (get_eq (by assumption)) (by omega) | exact get_ne2 (get_ne2 (by assumption) (by omega)) (by omega) | exact get_ne2 (get_ne2 (get_eq (by assumption)) (by omega)) (by omega) | exact get_ne2 (get_ne2 (get_ne2 (by assumption) (by omega)) (by omega)) (by omega) | exact get_ne2 (get_ne2 (get_ne2 (get_eq (by assumption)) (by omega)) (by omega)) (by omega)) rfl ?_
  refine j_aload_n (pc := 5) dX1_begin_5 rfl ?_
  refine j_iconst (pc := 6) dX1_begin_6 kc_0 ?_
  refine j_putf (pc := 7) dX1_begin_7 fl_X1_39 (jfit_i _) (by first | assumption | exact get_eq (by assumption) | exact get_ne2 (by assumption) (by omega) | exact get_ne2 (get_eq (by assumption)) (by omega) | exact get_ne2 (get_ne2 (by assumption) (by omega)) (by omega) | exact get_ne2 (get_ne2 (get_eq (by assumption)) (by omega)) (by omega) | exact get_ne2 (get_ne2 (get_ne2 (by assumption) (by omega)) (by omega)) (by omega) | exact get_ne2 (get_ne2 (get_ne2 (get_eq (by assumption)) (by omega)) (by omega)) (by omega)) (List.set_set _) ?_
  refine j_aload_n (pc := 10) dX1_begin_10 rfl ?_
  refine j_iconst (pc := 11) dX1_begin_11 kc_0 ?_
  refine j_putf (pc := 12) dX1_begin_12 fl_X1_42 (jfit_i _) (by first | assumption | exact get_eq (by assumption) | exact get_ne2 (by assumption) (by omega) | exact get_ne2 (get_eq (by assumption)) (by omega) | exact get_ne2 (get_ne2 (by assumption) (by omega)) (by omega) | exact get_ne2 (get_ne2 (get_eq (by assumption)) (by omega)) (by omega) | exact get_ne2 (get_ne2 (get_ne2 (by assumption) (by omega)) (by omega)) (by omega) | exact get_ne2 (get_ne2 (get_ne2 (get_eq (by assumption)) (by omega)) (by omega)) (by omega)) (List.set_set _) ?_
  refine j_aload_n (pc := 15) dX1_begin_15 rfl ?_
  refine j_iconst (pc := 16) dX1_begin_16 kc_0 ?_
  refine j_putf (pc := 17) dX1_begin_17 fl_X1_45 (jfit_i _) (by first | assumption | exact get_eq (by assumption) | exact get_ne2 (by assumption) (by omega) | exact get_ne2 (get_eq (by assumption)) (by omega) | exact get_ne2 (get_ne2 (by assumption) (by omega)) (by omega) | exact get_ne2 (get_ne2 (get_eq (by assumption)) (by omega)) (by omega) | exact get_ne2 (get_ne2 (get_ne2 (by assumption) (by omega)) (by omega)) (by omega) | exact get_ne2 (get_ne2 (get_ne2 (get_eq (by assumption)) (by omega)) (by omega)) (by omega)) (List.set_set _) ?_
  refine j_aload_n (pc := 20) dX1_begin_20 rfl ?_
  refine j_bipush (pc := 21) dX1_begin_21 kb_80 ?_
  refine j_putf (pc := 23) dX1_begin_23 fl_X1_48 (jfit_i _) (by first | assumption | exact get_eq (by assumption) | exact get_ne2 (by assumption) (by omega) | exact get_ne2 (get_eq (by assumption)) (by omega) | exact get_ne2 (get_ne2 (by assumption) (by omega)) (by omega) | exact get_ne2 (get_ne2 (get_eq (by assumption)) (by omega)) (by omega) | exact get_ne2 (get_ne2 (get_ne2 (by assumption) (by omega)) (by omega)) (by omega) | exact get_ne2 (get_ne2 (get_ne2 (get_eq (by assumption)) (by omega)) (by omega)) (by omega)) (List.set_set _) ?_
  refine j_aload_n (pc := 26) dX1_begin_26 rfl ?_
  refine j_iconst (pc := 27) dX1_begin_27 kc_2 ?_
  refine j_putf (pc := 28) dX1_begin_28 fl_X1_51 (jfit_i _) (by first | assumption | exact get_eq (by assumption) | exact get_ne2 (by assumption) (by omega) | exact get_ne2 (get_eq (by assumption)) (by omega) | exact get_ne2 (get_ne2 (by assumption) (by omega)) (by omega) | exact get_ne2 (get_ne2 (get_eq (by assumption)) (by omega)) (by omega) | exact get_ne2 (get_ne2 (get_ne2 (by assumption) (by omega)) (by omega)) (by omega) | exact get_ne2 (get_ne2 (get_ne2 (get_eq (by assumption)) (by omega)) (by omega)) (by omega)) (List.set_set _) ?_
  refine j_return (pc := 31) dX1_begin_31 rfl ?_
  exact ⟨rfl, rfl⟩

def jlt (v n : Int32) : Bool := decide (¬ v < 0) && decide (¬ n ≤ v)
set_option maxRecDepth 20000 in
set_option maxHeartbeats 1000000 in
theorem c_hasDeed {a : Nat} {v : ParV} {i : Int32} (hp : h[a]? = some (paC a v)) : CD g 0 mX1_hasDeed [.ref a, .int i] h (some (.int (b2i (jlt i v.2.1)))) h := by
  refine C.of (by decide +kernel) (by simp [Value.category]) (Nat.le_of_ble_eq_true rfl) ?_
  change J g mX1_hasDeed 0 0 0 _ h 0 [some (.ref a), some (.int i)] []
  refine j_iload_n (pc := 0) dX1_hasDeed_0 rfl ?_
  refine j_if_lt (pc := 1) (tgt := 16) dX1_hasDeed_1 rfl (fun zc1 => ?_) (fun zc1 => ?_)
  · refine j_iconst (pc := 16) dX1_hasDeed_16 kc_0 ?_
    refine j_zret (pc := 17) (b := jlt i v.2.1) dX1_hasDeed_17 rfl (by simp [jlt, b2i, *]) ?_
    exact ⟨rfl, rfl⟩
  · refine j_iload_n (pc := 4) dX1_hasDeed_4 rfl ?_
    refine j_aload_n (pc := 5) dX1_hasDeed_5 rfl ?_
    refine j_getf (pc := 6) dX1_hasDeed_6 fl_X1_39 (by assumption) rfl ?_
    refine j_icmp_ge (pc := 9) (tgt := 16) dX1_hasDeed_9 rfl (fun zc9 => ?_) (fun zc9 => ?_)
    · refine j_iconst (pc := 16) dX1_hasDeed_16 kc_0 ?_
      refine j_zret (pc := 17) (b := jlt i v.2.1) dX1_hasDeed_17 rfl (by simp [jlt, b2i, *]) ?_
      exact ⟨rfl, rfl⟩
    · refine j_iconst (pc := 12) dX1_hasDeed_12 kc_1 ?_
      refine j_goto (pc := 13) (tgt := 17) dX1_hasDeed_13 rfl ?_
      refine j_zret (pc := 17) (b := jlt i v.2.1) dX1_hasDeed_17 rfl (by simp [jlt, b2i, *]) ?_
      exact ⟨rfl, rfl⟩

set_option maxRecDepth 20000 in
set_option maxHeartbeats 1000000 in
theorem c_hasDead {a : Nat} {v : ParV} {i : Int32} (hp : h[a]? = some (paC a v)) : CD g 0 mX1_hasDead [.ref a, .int i] h (some (.int (b2i (jlt i v.2.2.1)))) h := by
  refine C.of (by decide +kernel) (by simp [Value.category]) (Nat.le_of_ble_eq_true rfl) ?_
  change J g mX1_hasDead 0 0 0 _ h 0 [some (.ref a), some (.int i)] []
  refine j_iload_n (pc := 0) dX1_hasDead_0 rfl ?_
  refine j_if_lt (pc := 1) (tgt := 16) dX1_hasDead_1 rfl (fun zc1 => ?_) (fun zc1 => ?_)
  · refine j_iconst (pc := 16) dX1_hasDead_16 kc_0 ?_
    refine j_zret (pc := 17) (b := jlt i v.2.2.1) dX1_hasDead_17 rfl (by simp [jlt, b2i, *]) ?_
    exact ⟨rfl, rfl⟩
  · refine j_iload_n (pc := 4) dX1_hasDead_4 rfl ?_
    refine j_aload_n (pc := 5) dX1_hasDead_5 rfl ?_
    refine j_getf (pc := 6) dX1_hasDead_6 fl_X1_42 (by assumption) rfl ?_
    refine j_icmp_ge (pc := 9) (tgt := 16) dX1_hasDead_9 rfl (fun zc9 => ?_) (fun zc9 => ?_)
    · refine j_iconst (pc := 16) dX1_hasDead_16 kc_0 ?_
      refine j_zret (pc := 17) (b := jlt i v.2.2.1) dX1_hasDead_17 rfl (by simp [jlt, b2i, *]) ?_
      exact ⟨rfl, rfl⟩
    · refine j_iconst (pc := 12) dX1_hasDead_12 kc_1 ?_
      refine j_goto (pc := 13) (tgt := 17) dX1_hasDead_13 rfl ?_
      refine j_zret (pc := 17) (b := jlt i v.2.2.1) dX1_hasDead_17 rfl (by simp [jlt, b2i, *]) ?_
      exact ⟨rfl, rfl⟩

set_option maxRecDepth 20000 in
set_option maxHeartbeats 1000000 in
theorem c_hasBearer {a : Nat} {v : ParV} {i : Int32} (hp : h[a]? = some (paC a v)) : CD g 0 mX1_hasBearer [.ref a, .int i] h (some (.int (b2i (jlt i v.2.2.2.1)))) h := by
  refine C.of (by decide +kernel) (by simp [Value.category]) (Nat.le_of_ble_eq_true rfl) ?_
  change J g mX1_hasBearer 0 0 0 _ h 0 [some (.ref a), some (.int i)] []
  refine j_iload_n (pc := 0) dX1_hasBearer_0 rfl ?_
  refine j_if_lt (pc := 1) (tgt := 16) dX1_hasBearer_1 rfl (fun zc1 => ?_) (fun zc1 => ?_)
  · refine j_iconst (pc := 16) dX1_hasBearer_16 kc_0 ?_
    refine j_zret (pc := 17) (b := jlt i v.2.2.2.1) dX1_hasBearer_17 rfl (by simp [jlt, b2i, *]) ?_
    exact ⟨rfl, rfl⟩
  · refine j_iload_n (pc := 4) dX1_hasBearer_4 rfl ?_
    refine j_aload_n (pc := 5) dX1_hasBearer_5 rfl ?_
    refine j_getf (pc := 6) dX1_hasBearer_6 fl_X1_45 (by assumption) rfl ?_
    refine j_icmp_ge (pc := 9) (tgt := 16) dX1_hasBearer_9 rfl (fun zc9 => ?_) (fun zc9 => ?_)
    · refine j_iconst (pc := 16) dX1_hasBearer_16 kc_0 ?_
      refine j_zret (pc := 17) (b := jlt i v.2.2.2.1) dX1_hasBearer_17 rfl (by simp [jlt, b2i, *]) ?_
      exact ⟨rfl, rfl⟩
    · refine j_iconst (pc := 12) dX1_hasBearer_12 kc_1 ?_
      refine j_goto (pc := 13) (tgt := 17) dX1_hasBearer_13 rfl ?_
      refine j_zret (pc := 17) (b := jlt i v.2.2.2.1) dX1_hasBearer_17 rfl (by simp [jlt, b2i, *]) ?_
      exact ⟨rfl, rfl⟩

set_option maxRecDepth 20000 in
set_option maxHeartbeats 1000000 in
theorem c_loseAll {a : Nat} {k n : Int32} {r : Nat} (hp : h[a]? = some (0, [.int k, .int n, .ref r])) : CD g 0 mX0_loseAll [.ref a] h none (h.set a (0, [.int 0, .int n, .ref r])) := by
  refine C.of (by decide +kernel) (by simp [Value.category]) (Nat.le_of_ble_eq_true rfl) ?_
  change J g mX0_loseAll 0 0 0 _ h 0 [some (.ref a)] []
  refine j_aload_n (pc := 0) dX0_loseAll_0 rfl ?_
  refine j_iconst (pc := 1) dX0_loseAll_1 kc_0 ?_
  refine j_putf (pc := 2) dX0_loseAll_2 fl_X0_28 (jfit_i _) (by assumption) rfl ?_
  refine j_return (pc := 5) dX0_loseAll_5 rfl ?_
  exact ⟨rfl, rfl⟩

end

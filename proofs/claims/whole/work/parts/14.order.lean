/-! the class's orders -/
section
variable {g : GG} {h : List AC} {Q : Option Value → List AC → Prop} {scr : AC} {tl : List AC} {lt : Fn} {lc : Int32} {rd : RdV} {sw : Bool} {P : ParV} {D : ParV} {S : ScV} {kk : Int32} {nx : Int32} {ring : Nat → ScV} {bu : Fn} {im : Nat → ScV} {kept : Int32} {tb : Fn} {tr : Fn} {tc : Int32} {ts : Int64}
/-- how much laying l costs, and then the best of the rest -/
def lfI (P : ParV) (S : ScV) (bu : Fn) (rest : Int32 → Int32 → Int32) (l left nd th : Int32) : Int32 :=
  iabs (nbS P S nd (imax 0 (rAt 6 bu l + th)) - imax 0 (rAt 6 bu l + th)) + rest (left &&& (bitI l ^^^ -1)) (nbS P S (nbS P S nd (imax 0 (rAt 6 bu l + th))) 0)
def leStep (P : ParV) (S : ScV) (bu : Fn) (rest : Int32 → Int32 → Int32) (left nd th : Int32) (k : Nat) (a : Int32) : Int32 :=
  if tbit left (nI k) then imin a (lfI P S bu rest (nI k) left nd th) else a
def leI (P : ParV) (S : ScV) (bu : Fn) (n : Nat) : Nat → Int32 → Int32 → Int32 → Int32
  | 0, _, _, _ => 0
  | r + 1, left, nd, th => if left = 0 then 0 else iter (leStep P S bu (fun l x => leI P S bu n r l x 0) left nd th) n 0 1000000
set_option maxRecDepth 20000 in
set_option maxHeartbeats 1000000 in
theorem x_leFrom {l left nd th dp : Int32} {d : Nat} (hd : 1 < d) {rest : Int32 → Int32 → Int32} (hr : ∀ l2 x : Int32, CD g d mX6_leastError [.ref 1, .int l2, .int x, .int 0, .int (dp + 1)] (W1 scr tl lt lc rd sw P D S kk nx ring bu im kept tb tr tc ts) (some (.int (rest l2 x))) (W1 scr tl lt lc rd sw P D S kk nx ring bu im kept tb tr tc ts)) : CD g (d + 1) mX6_leastErrorFrom [.ref 1, .int l, .int left, .int nd, .int th, .int dp] (W1 scr tl lt lc rd sw P D S kk nx ring bu im kept tb tr tc ts) (some (.int (lfI P S bu rest l left nd th))) (W1 scr tl lt lc rd sw P D S kk nx ring bu im kept tb tr tc ts) := by
  refine C.of (by decide +kernel) (by simp [Value.category]) (Nat.le_of_ble_eq_true rfl) ?_
  change J g mX6_leastErrorFrom (d + 1) 0 0 _ (W1 scr tl lt lc rd sw P D S kk nx ring bu im kept tb tr tc ts) 0 [some (.ref 1), some (.int l), some (.int left), some (.int nd), some (.int th), some (.int dp), none, none, none] []
  refine j_aload_n (pc := 0) dX6_leastErrorFrom_0 rfl ?_
  refine j_getf (pc := 1) dX6_leastErrorFrom_1 fl_X6_55 (by apply lkE; (with_reducible first | exact lkX_1 | exact lkX_27 | exact lkX_p | exact lkX_34 | exact lkX_35 | exact lkX_107 | exact lkX_125 | exact lkX_127 | exact lkX_28 | exact lkX_30 | exact lkX_32 | exact lkX_p1 | exact lkX_p3 | exact lkX_p5 | exact lkX_p7 | exact lkX_p9 | exact lkX_2 | exact lkX_109 | exact lkX_4 | exact lkX_d); rfl) rfl ?_
  refine j_iload_n (pc := 4) dX6_leastErrorFrom_4 rfl ?_
  refine j_v1 (pc := 5) (ci := 3) dX6_leastErrorFrom_5 mc_X3_at ml_X6_107 im_X3_at se_X3_at rfl rfl (by apply lkE; (with_reducible first | exact lkX_1 | exact lkX_27 | exact lkX_p | exact lkX_34 | exact lkX_35 | exact lkX_107 | exact lkX_125 | exact lkX_127 | exact lkX_28 | exact lkX_30 | exact lkX_32 | exact lkX_p1 | exact lkX_p3 | exact lkX_p5 | exact lkX_p7 | exact lkX_p9 | exact lkX_2 | exact lkX_109 | exact lkX_4 | exact lkX_d); rfl) (by omega) (c_at (n := 6) (by decide) (by apply lkE; (with_reducible first | exact lkX_p3 | exact lkX_28 | exact lkX_30 | exact lkX_32 | exact lkX_107 | exact lkX_125 | exact lkX_127); rfl) (by apply lkE; (with_reducible first | exact lkX_p4 | exact lkX_29 | exact lkX_31 | exact lkX_33 | exact lkX_108 | exact lkX_126 | exact lkX_128); rfl)) (Nat.le_of_ble_eq_true rfl) ?_
  refine j_iload (pc := 8) dX6_leastErrorFrom_8 rfl ?_
  refine j_s2 (pc := 10) dX6_leastErrorFrom_10 mc_X6_loadBy ml_X6_281 sm_X6_loadBy (by omega) (c_loadBy) (Nat.le_of_ble_eq_true rfl) ?_
  refine j_istore (pc := 13) dX6_leastErrorFrom_13 (Nat.le_of_ble_eq_true rfl) rfl ?_
  refine j_aload_n (pc := 15) dX6_leastErrorFrom_15 rfl ?_
  refine j_iload_n (pc := 16) dX6_leastErrorFrom_16 rfl ?_
  refine j_iload (pc := 17) dX6_leastErrorFrom_17 rfl ?_
  refine j_v2 (pc := 19) (ci := 6) dX6_leastErrorFrom_19 mc_X6_needleBy ml_X6_170 im_X6_needleBy se_X6_needleBy rfl rfl (by apply lkE; (with_reducible first | exact lkX_1 | exact lkX_27 | exact lkX_p | exact lkX_34 | exact lkX_35 | exact lkX_107 | exact lkX_125 | exact lkX_127 | exact lkX_28 | exact lkX_30 | exact lkX_32 | exact lkX_p1 | exact lkX_p3 | exact lkX_p5 | exact lkX_p7 | exact lkX_p9 | exact lkX_2 | exact lkX_109 | exact lkX_4 | exact lkX_d); rfl) (by omega) (x_needleBy) (Nat.le_of_ble_eq_true rfl) ?_
  refine j_istore (pc := 22) dX6_leastErrorFrom_22 (Nat.le_of_ble_eq_true rfl) rfl ?_
  refine j_aload_n (pc := 24) dX6_leastErrorFrom_24 rfl ?_
  refine j_iload_n (pc := 25) dX6_leastErrorFrom_25 rfl ?_
  refine j_iload_n (pc := 26) dX6_leastErrorFrom_26 rfl ?_
  refine j_s1 (pc := 27) dX6_leastErrorFrom_27 mc_X6_bit ml_X6_178 sm_X6_bit (by omega) (c_bit) (Nat.le_of_ble_eq_true rfl) ?_
  refine j_iconst (pc := 30) dX6_leastErrorFrom_30 kc_m1 ?_
  refine j_ixor (pc := 31) dX6_leastErrorFrom_31 ?_
  refine j_iand (pc := 32) dX6_leastErrorFrom_32 ?_
  refine j_aload_n (pc := 33) dX6_leastErrorFrom_33 rfl ?_
  refine j_iload (pc := 34) dX6_leastErrorFrom_34 rfl ?_
  refine j_iconst (pc := 36) dX6_leastErrorFrom_36 kc_0 ?_
  refine j_v2 (pc := 37) (ci := 6) dX6_leastErrorFrom_37 mc_X6_needleBy ml_X6_170 im_X6_needleBy se_X6_needleBy rfl rfl (by apply lkE; (with_reducible first | exact lkX_1 | exact lkX_27 | exact lkX_p | exact lkX_34 | exact lkX_35 | exact lkX_107 | exact lkX_125 | exact lkX_127 | exact lkX_28 | exact lkX_30 | exact lkX_32 | exact lkX_p1 | exact lkX_p3 | exact lkX_p5 | exact lkX_p7 | exact lkX_p9 | exact lkX_2 | exact lkX_109 | exact lkX_4 | exact lkX_d); rfl) (by omega) (x_needleBy) (Nat.le_of_ble_eq_true rfl) ?_
  refine j_iconst (pc := 40) dX6_leastErrorFrom_40 kc_0 ?_
  refine j_iload (pc := 41) dX6_leastErrorFrom_41 rfl ?_
  refine j_iconst (pc := 43) dX6_leastErrorFrom_43 kc_1 ?_
  refine j_iadd (pc := 44) dX6_leastErrorFrom_44 ?_
  refine j_v4 (pc := 45) (ci := 6) dX6_leastErrorFrom_45 mc_X6_leastError ml_X6_198 im_X6_leastError se_X6_leastError rfl rfl (by apply lkE; (with_reducible first | exact lkX_1 | exact lkX_27 | exact lkX_p | exact lkX_34 | exact lkX_35 | exact lkX_107 | exact lkX_125 | exact lkX_127 | exact lkX_28 | exact lkX_30 | exact lkX_32 | exact lkX_p1 | exact lkX_p3 | exact lkX_p5 | exact lkX_p7 | exact lkX_p9 | exact lkX_2 | exact lkX_109 | exact lkX_4 | exact lkX_d); rfl) (by omega) (hr _ _) (Nat.le_of_ble_eq_true rfl) ?_
  refine j_istore (pc := 48) dX6_leastErrorFrom_48 (Nat.le_of_ble_eq_true rfl) rfl ?_
  refine j_iload (pc := 50) dX6_leastErrorFrom_50 rfl ?_
  refine j_iload (pc := 52) dX6_leastErrorFrom_52 rfl ?_
  refine j_isub (pc := 54) dX6_leastErrorFrom_54 ?_
  refine j_abs (pc := 55) dX6_leastErrorFrom_55 ml_X6_289 (by omega) (Nat.le_of_ble_eq_true rfl) ?_
  refine j_iload (pc := 58) dX6_leastErrorFrom_58 rfl ?_
  refine j_iadd (pc := 60) dX6_leastErrorFrom_60 ?_
  refine j_ireturn (pc := 61) dX6_leastErrorFrom_61 rfl ?_
  exact ⟨rfl, rfl⟩

set_option maxRecDepth 20000 in
set_option maxHeartbeats 1000000 in
theorem xl_le {left nd th dp : Int32} {d : Nat} {rest : Int32 → Int32 → Int32} (hf : ∀ l : Int32, CD g d mX6_leastErrorFrom [.ref 1, .int l, .int left, .int nd, .int th, .int dp] (W1 scr tl lt lc rd sw P D S kk nx ring bu im kept tb tr tc ts) (some (.int (lfI P S bu rest l left nd th))) (W1 scr tl lt lc rd sw P D S kk nx ring bu im kept tb tr tc ts)) {n : Nat} (hdd : P.2.2.1 = nI n) (hn : n ≤ 6) : ∀ (m k : Nat) (a : Int32), k + m = n → Q (some (.int (iter (leStep P S bu rest left nd th) m k a))) (W1 scr tl lt lc rd sw P D S kk nx ring bu im kept tb tr tc ts) → J g mX6_leastError (d + 1) 0 0 Q (W1 scr tl lt lc rd sw P D S kk nx ring bu im kept tb tr tc ts) 21 [some (.ref 1), some (.int left), some (.int nd), some (.int th), some (.int dp), some (.int a), some (.int (nI k))] [] := by
  intro m
  induction m with
  | zero =>
    intro k a hk hq
    refine j_iload (pc := 21) dX6_leastError_21 rfl ?_
    refine j_aload_n (pc := 23) dX6_leastError_23 rfl ?_
    refine j_getf (pc := 24) dX6_leastError_24 fl_X6_30 (by apply lkE; (with_reducible first | exact lkX_1 | exact lkX_27 | exact lkX_p | exact lkX_34 | exact lkX_35 | exact lkX_107 | exact lkX_125 | exact lkX_127 | exact lkX_28 | exact lkX_30 | exact lkX_32 | exact lkX_p1 | exact lkX_p3 | exact lkX_p5 | exact lkX_p7 | exact lkX_p9 | exact lkX_2 | exact lkX_109 | exact lkX_4 | exact lkX_d); rfl) rfl ?_
    refine j_getf (pc := 27) dX6_leastError_27 fl_X6_189 (by apply lkE; (with_reducible first | exact lkX_1 | exact lkX_27 | exact lkX_p | exact lkX_34 | exact lkX_35 | exact lkX_107 | exact lkX_125 | exact lkX_127 | exact lkX_28 | exact lkX_30 | exact lkX_32 | exact lkX_p1 | exact lkX_p3 | exact lkX_p5 | exact lkX_p7 | exact lkX_p9 | exact lkX_2 | exact lkX_109 | exact lkX_4 | exact lkX_d); rfl) rfl ?_
    refine j_icmp_ge (pc := 30) (tgt := 66) dX6_leastError_30 rfl (fun _ => ?_) (fun zc30 => absurd (by rw [hdd]; exact nI_le (by omega) (by omega)) zc30)
    refine j_iload (pc := 66) dX6_leastError_66 rfl ?_
    refine j_ireturn (pc := 68) dX6_leastError_68 rfl ?_
    exact hq
  | succ m ih =>
    intro k a hk hq
    refine j_iload (pc := 21) dX6_leastError_21 rfl ?_
    refine j_aload_n (pc := 23) dX6_leastError_23 rfl ?_
    refine j_getf (pc := 24) dX6_leastError_24 fl_X6_30 (by apply lkE; (with_reducible first | exact lkX_1 | exact lkX_27 | exact lkX_p | exact lkX_34 | exact lkX_35 | exact lkX_107 | exact lkX_125 | exact lkX_127 | exact lkX_28 | exact lkX_30 | exact lkX_32 | exact lkX_p1 | exact lkX_p3 | exact lkX_p5 | exact lkX_p7 | exact lkX_p9 | exact lkX_2 | exact lkX_109 | exact lkX_4 | exact lkX_d); rfl) rfl ?_
    refine j_getf (pc := 27) dX6_leastError_27 fl_X6_189 (by apply lkE; (with_reducible first | exact lkX_1 | exact lkX_27 | exact lkX_p | exact lkX_34 | exact lkX_35 | exact lkX_107 | exact lkX_125 | exact lkX_127 | exact lkX_28 | exact lkX_30 | exact lkX_32 | exact lkX_p1 | exact lkX_p3 | exact lkX_p5 | exact lkX_p7 | exact lkX_p9 | exact lkX_2 | exact lkX_109 | exact lkX_4 | exact lkX_d); rfl) rfl ?_
    refine j_icmp_ge (pc := 30) (tgt := 66) dX6_leastError_30 rfl (fun zc30 => absurd zc30 (by rw [hdd]; exact nI_ge (by omega) (by omega))) (fun _ => ?_)
    refine j_iload_n (pc := 33) dX6_leastError_33 rfl ?_
    refine j_iload (pc := 34) dX6_leastError_34 rfl ?_
    refine j_s2 (pc := 36) dX6_leastError_36 mc_X6_isIn ml_X6_174 sm_X6_isIn (by omega) (c_isIn) (Nat.le_of_ble_eq_true rfl) ?_
    refine j_beq (pc := 39) (tgt := 60) dX6_leastError_39 rfl (fun zc39 => ?_) (fun zc39 => ?_)
    · refine j_iinc (pc := 60) dX6_leastError_60 rfl rfl (Nat.le_of_ble_eq_true rfl) rfl ?_
      refine j_goto (pc := 63) (tgt := 21) dX6_leastError_63 rfl ?_
      rw [nI_s]
      refine ih (k + 1) _ (by omega) ?_
      simpa [iter, leStep, *] using hq
    · refine j_iload (pc := 42) dX6_leastError_42 rfl ?_
      refine j_aload_n (pc := 44) dX6_leastError_44 rfl ?_
      refine j_iload (pc := 45) dX6_leastError_45 rfl ?_
      refine j_iload_n (pc := 47) dX6_leastError_47 rfl ?_
      refine j_iload_n (pc := 48) dX6_leastError_48 rfl ?_
      refine j_iload_n (pc := 49) dX6_leastError_49 rfl ?_
      refine j_iload (pc := 50) dX6_leastError_50 rfl ?_
      refine j_v5 (pc := 52) (ci := 6) dX6_leastError_52 mc_X6_leastErrorFrom ml_X6_285 im_X6_leastErrorFrom se_X6_leastErrorFrom rfl rfl (by apply lkE; (with_reducible first | exact lkX_1 | exact lkX_27 | exact lkX_p | exact lkX_34 | exact lkX_35 | exact lkX_107 | exact lkX_125 | exact lkX_127 | exact lkX_28 | exact lkX_30 | exact lkX_32 | exact lkX_p1 | exact lkX_p3 | exact lkX_p5 | exact lkX_p7 | exact lkX_p9 | exact lkX_2 | exact lkX_109 | exact lkX_4 | exact lkX_d); rfl) (by omega) (hf _) (Nat.le_of_ble_eq_true rfl) ?_
      refine j_min (pc := 55) dX6_leastError_55 ml_X6_278 (by omega) (Nat.le_of_ble_eq_true rfl) ?_
      refine j_istore (pc := 58) dX6_leastError_58 (Nat.le_of_ble_eq_true rfl) rfl ?_
      refine j_iinc (pc := 60) dX6_leastError_60 rfl rfl (Nat.le_of_ble_eq_true rfl) rfl ?_
      refine j_goto (pc := 63) (tgt := 21) dX6_leastError_63 rfl ?_
      rw [nI_s]
      refine ih (k + 1) _ (by omega) ?_
      simpa [iter, leStep, *] using hq

set_option maxRecDepth 20000 in
set_option maxHeartbeats 1000000 in
theorem x_leastError {n : Nat} (hdd : P.2.2.1 = nI n) (hn : n ≤ 6) : ∀ (r : Nat) (left nd th : Int32), r ≤ 6 → CD g (2 * r + 2) mX6_leastError [.ref 1, .int left, .int nd, .int th, .int (nI (6 - r))] (W1 scr tl lt lc rd sw P D S kk nx ring bu im kept tb tr tc ts) (some (.int (leI P S bu n r left nd th))) (W1 scr tl lt lc rd sw P D S kk nx ring bu im kept tb tr tc ts) := by
  intro r
  induction r with
  | zero =>
    intro left nd th hr
    refine C.of (by decide +kernel) (by simp [Value.category]) (Nat.le_of_ble_eq_true rfl) ?_
    change J g mX6_leastError (2 * 0 + 2) 0 0 _ (W1 scr tl lt lc rd sw P D S kk nx ring bu im kept tb tr tc ts) 0 [some (.ref 1), some (.int left), some (.int nd), some (.int th), some (.int (nI (6 - 0))), none, none] []
    refine j_iload_n (pc := 0) dX6_leastError_0 rfl ?_
    refine j_if_eq (pc := 1) (tgt := 11) dX6_leastError_1 rfl (fun zc1 => ?_) (fun zc1 => ?_)
    · refine j_iconst (pc := 11) dX6_leastError_11 kc_0 ?_
      refine j_ireturn (pc := 12) dX6_leastError_12 rfl ?_
      exact ⟨by simp [leI], rfl⟩
    · refine j_iload (pc := 4) dX6_leastError_4 rfl ?_
      refine j_bipush (pc := 6) dX6_leastError_6 kb_6 ?_
      refine j_icmp_lt (pc := 8) (tgt := 13) dX6_leastError_8 rfl (fun zc8 => absurd zc8 (nI_nlt (a := 6) (b := 6) (by omega) (by omega))) (fun _ => ?_)
      refine j_iconst (pc := 11) dX6_leastError_11 kc_0 ?_
      refine j_ireturn (pc := 12) dX6_leastError_12 rfl ?_
      exact ⟨by simp [leI], rfl⟩
  | succ r ih =>
    intro left nd th hr
    refine C.of (by decide +kernel) (by simp [Value.category]) (Nat.le_of_ble_eq_true rfl) ?_
    change J g mX6_leastError (2 * (r + 1) + 2) 0 0 _ (W1 scr tl lt lc rd sw P D S kk nx ring bu im kept tb tr tc ts) 0 [some (.ref 1), some (.int left), some (.int nd), some (.int th), some (.int (nI (6 - (r + 1)))), none, none] []
    refine j_iload_n (pc := 0) dX6_leastError_0 rfl ?_
    refine j_if_eq (pc := 1) (tgt := 11) dX6_leastError_1 rfl (fun zc1 => ?_) (fun zc1 => ?_)
    · refine j_iconst (pc := 11) dX6_leastError_11 kc_0 ?_
      refine j_ireturn (pc := 12) dX6_leastError_12 rfl ?_
      exact ⟨by simp [leI, *], rfl⟩
    · refine j_iload (pc := 4) dX6_leastError_4 rfl ?_
      refine j_bipush (pc := 6) dX6_leastError_6 kb_6 ?_
      refine j_icmp_lt (pc := 8) (tgt := 13) dX6_leastError_8 rfl (fun _ => ?_) (fun zc8 => absurd (nI_lt (a := 6 - (r + 1)) (b := 6) (by omega) (by omega)) zc8)
      refine j_ldcw (pc := 13) dX6_leastError_13 ck_X6_284 ?_
      refine j_istore (pc := 16) dX6_leastError_16 (Nat.le_of_ble_eq_true rfl) rfl ?_
      refine j_iconst (pc := 18) dX6_leastError_18 kc_0 ?_
      refine j_istore (pc := 19) dX6_leastError_19 (Nat.le_of_ble_eq_true rfl) rfl ?_
      have hf : ∀ l : Int32, CD g (2 * r + 3) mX6_leastErrorFrom [.ref 1, .int l, .int left, .int nd, .int th, .int (nI (6 - (r + 1)))] (W1 scr tl lt lc rd sw P D S kk nx ring bu im kept tb tr tc ts) (some (.int (lfI P S bu (fun l x => leI P S bu n r l x 0) l left nd th))) (W1 scr tl lt lc rd sw P D S kk nx ring bu im kept tb tr tc ts) := fun l => x_leFrom (by omega) (fun l2 x => by
          have z := ih l2 x 0 (by omega)
          rw [nI_s1, show 6 - (r + 1) + 1 = 6 - r by omega]
          exact z)
      exact xl_le hf hdd hn n 0 1000000 (by omega) ⟨by simp [leI, *], rfl⟩
/-- the best next, and how much -/
def bnStep (P : ParV) (S : ScV) (bu : Fn) (rest : Int32 → Int32 → Int32) (left nd th : Int32) (k : Nat) (a : Int32 × Int32) : Int32 × Int32 :=
  if a.2 ≤ (if tbit left (nI k) then lfI P S bu rest (nI k) left nd th else 1000000) then a else (nI k, if tbit left (nI k) then lfI P S bu rest (nI k) left nd th else 1000000)
def bnI (P : ParV) (S : ScV) (bu : Fn) (n r : Nat) (left nd th : Int32) : Int32 := (iter (bnStep P S bu (fun l x => leI P S bu n r l x 0) left nd th) n 0 (-9, 1000000)).1
def ioI (P : ParV) (S : ScV) (bu : Fn) (n : Nat) : Nat → Nat → Int32 → Int32 → Int32 → Int32 → Int32
  | 0, _, _, _, _, p => p
  | m + 1, e, left, nd, th, _ => if bnI P S bu n (5 - e) left nd th = -9 then -9 else
    ioI P S bu n m (e + 1) (left &&& (bitI (bnI P S bu n (5 - e) left nd th) ^^^ -1)) (nbS P S (nbS P S nd (imax 0 (rAt 6 bu (bnI P S bu n (5 - e) left nd th) + th))) 0) 0 (bnI P S bu n (5 - e) left nd th)
set_option maxRecDepth 20000 in
set_option maxHeartbeats 1000000 in
theorem xl_bn {left nd th dp : Int32} {d : Nat} {rest : Int32 → Int32 → Int32} (hf : ∀ l : Int32, CD g d mX6_leastErrorFrom [.ref 1, .int l, .int left, .int nd, .int th, .int dp] (W1 scr tl lt lc rd sw P D S kk nx ring bu im kept tb tr tc ts) (some (.int (lfI P S bu rest l left nd th))) (W1 scr tl lt lc rd sw P D S kk nx ring bu im kept tb tr tc ts)) {n : Nat} (hdd : P.2.2.1 = nI n) (hn : n ≤ 6) : ∀ (m k : Nat) (a : Int32) (b : Int32), k + m = n → Q (some (.int (iter (bnStep P S bu rest left nd th) m k (a, b)).1)) (W1 scr tl lt lc rd sw P D S kk nx ring bu im kept tb tr tc ts) → J g mX6_bestNext (d + 1) 0 0 Q (W1 scr tl lt lc rd sw P D S kk nx ring bu im kept tb tr tc ts) 12 [some (.ref 1), some (.int left), some (.int nd), some (.int th), some (.int dp), some (.int a), some (.int b), some (.int (nI k)), none] [] := by
  intro m
  induction m with
  | zero =>
    intro k a b hk hq
    refine j_iload (pc := 12) dX6_bestNext_12 rfl ?_
    refine j_aload_n (pc := 14) dX6_bestNext_14 rfl ?_
    refine j_getf (pc := 15) dX6_bestNext_15 fl_X6_30 (by apply lkE; (with_reducible first | exact lkX_1 | exact lkX_27 | exact lkX_p | exact lkX_34 | exact lkX_35 | exact lkX_107 | exact lkX_125 | exact lkX_127 | exact lkX_28 | exact lkX_30 | exact lkX_32 | exact lkX_p1 | exact lkX_p3 | exact lkX_p5 | exact lkX_p7 | exact lkX_p9 | exact lkX_2 | exact lkX_109 | exact lkX_4 | exact lkX_d); rfl) rfl ?_
    refine j_getf (pc := 18) dX6_bestNext_18 fl_X6_189 (by apply lkE; (with_reducible first | exact lkX_1 | exact lkX_27 | exact lkX_p | exact lkX_34 | exact lkX_35 | exact lkX_107 | exact lkX_125 | exact lkX_127 | exact lkX_28 | exact lkX_30 | exact lkX_32 | exact lkX_p1 | exact lkX_p3 | exact lkX_p5 | exact lkX_p7 | exact lkX_p9 | exact lkX_2 | exact lkX_109 | exact lkX_4 | exact lkX_d); rfl) rfl ?_
    refine j_icmp_ge (pc := 21) (tgt := 73) dX6_bestNext_21 rfl (fun _ => ?_) (fun zc21 => absurd (by rw [hdd]; exact nI_le (by omega) (by omega)) zc21)
    refine j_iload (pc := 73) dX6_bestNext_73 rfl ?_
    refine j_ireturn (pc := 75) dX6_bestNext_75 rfl ?_
    exact hq
  | succ m ih =>
    intro k a b hk hq
    refine j_iload (pc := 12) dX6_bestNext_12 rfl ?_
    refine j_aload_n (pc := 14) dX6_bestNext_14 rfl ?_
    refine j_getf (pc := 15) dX6_bestNext_15 fl_X6_30 (by apply lkE; (with_reducible first | exact lkX_1 | exact lkX_27 | exact lkX_p | exact lkX_34 | exact lkX_35 | exact lkX_107 | exact lkX_125 | exact lkX_127 | exact lkX_28 | exact lkX_30 | exact lkX_32 | exact lkX_p1 | exact lkX_p3 | exact lkX_p5 | exact lkX_p7 | exact lkX_p9 | exact lkX_2 | exact lkX_109 | exact lkX_4 | exact lkX_d); rfl) rfl ?_
    refine j_getf (pc := 18) dX6_bestNext_18 fl_X6_189 (by apply lkE; (with_reducible first | exact lkX_1 | exact lkX_27 | exact lkX_p | exact lkX_34 | exact lkX_35 | exact lkX_107 | exact lkX_125 | exact lkX_127 | exact lkX_28 | exact lkX_30 | exact lkX_32 | exact lkX_p1 | exact lkX_p3 | exact lkX_p5 | exact lkX_p7 | exact lkX_p9 | exact lkX_2 | exact lkX_109 | exact lkX_4 | exact lkX_d); rfl) rfl ?_
    refine j_icmp_ge (pc := 21) (tgt := 73) dX6_bestNext_21 rfl (fun zc21 => absurd zc21 (by rw [hdd]; exact nI_ge (by omega) (by omega))) (fun _ => ?_)
    refine j_iload_n (pc := 24) dX6_bestNext_24 rfl ?_
    refine j_iload (pc := 25) dX6_bestNext_25 rfl ?_
    refine j_s2 (pc := 27) dX6_bestNext_27 mc_X6_isIn ml_X6_174 sm_X6_isIn (by omega) (c_isIn) (Nat.le_of_ble_eq_true rfl) ?_
    refine j_beq (pc := 30) (tgt := 47) dX6_bestNext_30 rfl (fun zc30 => ?_) (fun zc30 => ?_)
    · refine j_ldcw (pc := 47) dX6_bestNext_47 ck_X6_284 ?_
      refine j_istore (pc := 50) dX6_bestNext_50 (Nat.le_of_ble_eq_true rfl) rfl ?_
      refine j_iload (pc := 52) dX6_bestNext_52 rfl ?_
      refine j_iload (pc := 54) dX6_bestNext_54 rfl ?_
      refine j_icmp_ge (pc := 56) (tgt := 67) dX6_bestNext_56 rfl (fun zc56 => ?_) (fun zc56 => ?_)
      · refine j_iinc (pc := 67) dX6_bestNext_67 rfl rfl (Nat.le_of_ble_eq_true rfl) rfl ?_
        refine j_goto (pc := 70) (tgt := 12) dX6_bestNext_70 rfl ?_
        rw [nI_s]
        refine j_weak (ls' := [some _, some _, some _, some _, some _, some _, some _, some _, none]) ⟨rfl, rfl, rfl, rfl, rfl, rfl, rfl, rfl, trivial⟩ ?_
        refine ih (k + 1) _ _ (by omega) ?_
        simpa [iter, bnStep, *] using hq
      · refine j_iload (pc := 59) dX6_bestNext_59 rfl ?_
        refine j_istore (pc := 61) dX6_bestNext_61 (Nat.le_of_ble_eq_true rfl) rfl ?_
        refine j_iload (pc := 63) dX6_bestNext_63 rfl ?_
        refine j_istore (pc := 65) dX6_bestNext_65 (Nat.le_of_ble_eq_true rfl) rfl ?_
        refine j_iinc (pc := 67) dX6_bestNext_67 rfl rfl (Nat.le_of_ble_eq_true rfl) rfl ?_
        refine j_goto (pc := 70) (tgt := 12) dX6_bestNext_70 rfl ?_
        rw [nI_s]
        refine j_weak (ls' := [some _, some _, some _, some _, some _, some _, some _, some _, none]) ⟨rfl, rfl, rfl, rfl, rfl, rfl, rfl, rfl, trivial⟩ ?_
        refine ih (k + 1) _ _ (by omega) ?_
        simpa [iter, bnStep, *] using hq
    · refine j_aload_n (pc := 33) dX6_bestNext_33 rfl ?_
      refine j_iload (pc := 34) dX6_bestNext_34 rfl ?_
      refine j_iload_n (pc := 36) dX6_bestNext_36 rfl ?_
      refine j_iload_n (pc := 37) dX6_bestNext_37 rfl ?_
      refine j_iload_n (pc := 38) dX6_bestNext_38 rfl ?_
      refine j_iload (pc := 39) dX6_bestNext_39 rfl ?_
      refine j_v5 (pc := 41) (ci := 6) dX6_bestNext_41 mc_X6_leastErrorFrom ml_X6_285 im_X6_leastErrorFrom se_X6_leastErrorFrom rfl rfl (by apply lkE; (with_reducible first | exact lkX_1 | exact lkX_27 | exact lkX_p | exact lkX_34 | exact lkX_35 | exact lkX_107 | exact lkX_125 | exact lkX_127 | exact lkX_28 | exact lkX_30 | exact lkX_32 | exact lkX_p1 | exact lkX_p3 | exact lkX_p5 | exact lkX_p7 | exact lkX_p9 | exact lkX_2 | exact lkX_109 | exact lkX_4 | exact lkX_d); rfl) (by omega) (hf _) (Nat.le_of_ble_eq_true rfl) ?_
      refine j_goto (pc := 44) (tgt := 50) dX6_bestNext_44 rfl ?_
      refine j_istore (pc := 50) dX6_bestNext_50 (Nat.le_of_ble_eq_true rfl) rfl ?_
      refine j_iload (pc := 52) dX6_bestNext_52 rfl ?_
      refine j_iload (pc := 54) dX6_bestNext_54 rfl ?_
      refine j_icmp_ge (pc := 56) (tgt := 67) dX6_bestNext_56 rfl (fun zc56 => ?_) (fun zc56 => ?_)
      · refine j_iinc (pc := 67) dX6_bestNext_67 rfl rfl (Nat.le_of_ble_eq_true rfl) rfl ?_
        refine j_goto (pc := 70) (tgt := 12) dX6_bestNext_70 rfl ?_
        rw [nI_s]
        refine j_weak (ls' := [some _, some _, some _, some _, some _, some _, some _, some _, none]) ⟨rfl, rfl, rfl, rfl, rfl, rfl, rfl, rfl, trivial⟩ ?_
        refine ih (k + 1) _ _ (by omega) ?_
        simpa [iter, bnStep, *] using hq
      · refine j_iload (pc := 59) dX6_bestNext_59 rfl ?_
        refine j_istore (pc := 61) dX6_bestNext_61 (Nat.le_of_ble_eq_true rfl) rfl ?_
        refine j_iload (pc := 63) dX6_bestNext_63 rfl ?_
        refine j_istore (pc := 65) dX6_bestNext_65 (Nat.le_of_ble_eq_true rfl) rfl ?_
        refine j_iinc (pc := 67) dX6_bestNext_67 rfl rfl (Nat.le_of_ble_eq_true rfl) rfl ?_
        refine j_goto (pc := 70) (tgt := 12) dX6_bestNext_70 rfl ?_
        rw [nI_s]
        refine j_weak (ls' := [some _, some _, some _, some _, some _, some _, some _, some _, none]) ⟨rfl, rfl, rfl, rfl, rfl, rfl, rfl, rfl, trivial⟩ ?_
        refine ih (k + 1) _ _ (by omega) ?_
        simpa [iter, bnStep, *] using hq

set_option maxRecDepth 20000 in
set_option maxHeartbeats 1000000 in
theorem x_bestNext {left nd th : Int32} {e : Nat} (he : e ≤ 5) {n : Nat} (hdd : P.2.2.1 = nI n) (hn : n ≤ 6) : CD g 18 mX6_bestNext [.ref 1, .int left, .int nd, .int th, .int (nI e)] (W1 scr tl lt lc rd sw P D S kk nx ring bu im kept tb tr tc ts) (some (.int (bnI P S bu n (5 - e) left nd th))) (W1 scr tl lt lc rd sw P D S kk nx ring bu im kept tb tr tc ts) := by
  refine C.of (by decide +kernel) (by simp [Value.category]) (Nat.le_of_ble_eq_true rfl) ?_
  change J g mX6_bestNext 18 0 0 _ (W1 scr tl lt lc rd sw P D S kk nx ring bu im kept tb tr tc ts) 0 [some (.ref 1), some (.int left), some (.int nd), some (.int th), some (.int (nI e)), none, none, none, none] []
  refine j_bipush (pc := 0) dX6_bestNext_0 kb_m9 ?_
  refine j_istore (pc := 2) dX6_bestNext_2 (Nat.le_of_ble_eq_true rfl) rfl ?_
  refine j_ldcw (pc := 4) dX6_bestNext_4 ck_X6_284 ?_
  refine j_istore (pc := 7) dX6_bestNext_7 (Nat.le_of_ble_eq_true rfl) rfl ?_
  refine j_iconst (pc := 9) dX6_bestNext_9 kc_0 ?_
  refine j_istore (pc := 10) dX6_bestNext_10 (Nat.le_of_ble_eq_true rfl) rfl ?_
  have hf : ∀ l : Int32, CD g 17 mX6_leastErrorFrom [.ref 1, .int l, .int left, .int nd, .int th, .int (nI e)] (W1 scr tl lt lc rd sw P D S kk nx ring bu im kept tb tr tc ts) (some (.int (lfI P S bu (fun l x => leI P S bu n (5 - e) l x 0) l left nd th))) (W1 scr tl lt lc rd sw P D S kk nx ring bu im kept tb tr tc ts) := fun l => x_leFrom (d := 16) (by omega) (fun l2 x => by
      rw [nI_s1, show e + 1 = 6 - (5 - e) by omega]
      exact (x_leastError hdd hn (5 - e) l2 x 0 (by omega)).deeper (by omega))
  exact xl_bn hf hdd hn n 0 (-9) 1000000 (by omega) ⟨rfl, rfl⟩

set_option maxRecDepth 20000 in
set_option maxHeartbeats 1000000 in
theorem xl_inOrder {kk2 : Nat} (hkk : kk2 ≤ 5) {n : Nat} (hdd : P.2.2.1 = nI n) (hn : n ≤ 6) : ∀ (m e : Nat) (left nd th p : Int32) (al : Int32), e + m = kk2 + 1 → Q (some (.int (ioI P S bu n m e left nd th p))) (W1 scr tl lt lc rd sw P D S kk nx ring bu im kept tb tr tc ts) → J g mX6_inOrder 19 0 0 Q (W1 scr tl lt lc rd sw P D S kk nx ring bu im kept tb tr tc ts) 27 [some (.ref 1), some (.int (nI kk2)), some (.int al), some (.int left), some (.int nd), some (.int th), some (.int p), some (.int (nI e))] [] := by
  intro m
  induction m with
  | zero =>
    intro e left nd th p al hk hq
    refine j_iload (pc := 27) dX6_inOrder_27 rfl ?_
    refine j_iload_n (pc := 29) dX6_inOrder_29 rfl ?_
    refine j_icmp_gt (pc := 30) (tgt := 102) dX6_inOrder_30 rfl (fun _ => ?_) (fun zc30 => absurd (nI_lt (a := kk2) (b := e) (by omega) (by omega)) zc30)
    refine j_iload (pc := 102) dX6_inOrder_102 rfl ?_
    refine j_ireturn (pc := 104) dX6_inOrder_104 rfl ?_
    exact hq
  | succ m ih =>
    intro e left nd th p al hk hq
    refine j_iload (pc := 27) dX6_inOrder_27 rfl ?_
    refine j_iload_n (pc := 29) dX6_inOrder_29 rfl ?_
    refine j_icmp_gt (pc := 30) (tgt := 102) dX6_inOrder_30 rfl (fun zc30 => absurd zc30 (nI_nlt (a := kk2) (b := e) (by omega) (by omega))) (fun _ => ?_)
    refine j_aload_n (pc := 33) dX6_inOrder_33 rfl ?_
    refine j_iload_n (pc := 34) dX6_inOrder_34 rfl ?_
    refine j_iload (pc := 35) dX6_inOrder_35 rfl ?_
    refine j_iload (pc := 37) dX6_inOrder_37 rfl ?_
    refine j_iload (pc := 39) dX6_inOrder_39 rfl ?_
    refine j_v4 (pc := 41) (ci := 6) dX6_inOrder_41 mc_X6_bestNext ml_X6_292 im_X6_bestNext se_X6_bestNext rfl rfl (by apply lkE; (with_reducible first | exact lkX_1 | exact lkX_27 | exact lkX_p | exact lkX_34 | exact lkX_35 | exact lkX_107 | exact lkX_125 | exact lkX_127 | exact lkX_28 | exact lkX_30 | exact lkX_32 | exact lkX_p1 | exact lkX_p3 | exact lkX_p5 | exact lkX_p7 | exact lkX_p9 | exact lkX_2 | exact lkX_109 | exact lkX_4 | exact lkX_d); rfl) (by omega) (x_bestNext (by omega) hdd hn) (Nat.le_of_ble_eq_true rfl) ?_
    refine j_istore (pc := 44) dX6_inOrder_44 (Nat.le_of_ble_eq_true rfl) rfl ?_
    refine j_iload (pc := 46) dX6_inOrder_46 rfl ?_
    refine j_bipush (pc := 48) dX6_inOrder_48 kb_m9 ?_
    refine j_icmp_ne (pc := 50) (tgt := 56) dX6_inOrder_50 rfl (fun zc50 => ?_) (fun zc50 => ?_)
    · refine j_aload_n (pc := 56) dX6_inOrder_56 rfl ?_
      refine j_aload_n (pc := 57) dX6_inOrder_57 rfl ?_
      refine j_iload (pc := 58) dX6_inOrder_58 rfl ?_
      refine j_aload_n (pc := 60) dX6_inOrder_60 rfl ?_
      refine j_getf (pc := 61) dX6_inOrder_61 fl_X6_55 (by apply lkE; (with_reducible first | exact lkX_1 | exact lkX_27 | exact lkX_p | exact lkX_34 | exact lkX_35 | exact lkX_107 | exact lkX_125 | exact lkX_127 | exact lkX_28 | exact lkX_30 | exact lkX_32 | exact lkX_p1 | exact lkX_p3 | exact lkX_p5 | exact lkX_p7 | exact lkX_p9 | exact lkX_2 | exact lkX_109 | exact lkX_4 | exact lkX_d); rfl) rfl ?_
      refine j_iload (pc := 64) dX6_inOrder_64 rfl ?_
      refine j_v1 (pc := 66) (ci := 3) dX6_inOrder_66 mc_X3_at ml_X6_107 im_X3_at se_X3_at rfl rfl (by apply lkE; (with_reducible first | exact lkX_1 | exact lkX_27 | exact lkX_p | exact lkX_34 | exact lkX_35 | exact lkX_107 | exact lkX_125 | exact lkX_127 | exact lkX_28 | exact lkX_30 | exact lkX_32 | exact lkX_p1 | exact lkX_p3 | exact lkX_p5 | exact lkX_p7 | exact lkX_p9 | exact lkX_2 | exact lkX_109 | exact lkX_4 | exact lkX_d); rfl) (by omega) (c_at (n := 6) (by decide) (by apply lkE; (with_reducible first | exact lkX_p3 | exact lkX_28 | exact lkX_30 | exact lkX_32 | exact lkX_107 | exact lkX_125 | exact lkX_127); rfl) (by apply lkE; (with_reducible first | exact lkX_p4 | exact lkX_29 | exact lkX_31 | exact lkX_33 | exact lkX_108 | exact lkX_126 | exact lkX_128); rfl)) (Nat.le_of_ble_eq_true rfl) ?_
      refine j_iload (pc := 69) dX6_inOrder_69 rfl ?_
      refine j_s2 (pc := 71) dX6_inOrder_71 mc_X6_loadBy ml_X6_281 sm_X6_loadBy (by omega) (c_loadBy) (Nat.le_of_ble_eq_true rfl) ?_
      refine j_v2 (pc := 74) (ci := 6) dX6_inOrder_74 mc_X6_needleBy ml_X6_170 im_X6_needleBy se_X6_needleBy rfl rfl (by apply lkE; (with_reducible first | exact lkX_1 | exact lkX_27 | exact lkX_p | exact lkX_34 | exact lkX_35 | exact lkX_107 | exact lkX_125 | exact lkX_127 | exact lkX_28 | exact lkX_30 | exact lkX_32 | exact lkX_p1 | exact lkX_p3 | exact lkX_p5 | exact lkX_p7 | exact lkX_p9 | exact lkX_2 | exact lkX_109 | exact lkX_4 | exact lkX_d); rfl) (by omega) (x_needleBy) (Nat.le_of_ble_eq_true rfl) ?_
      refine j_iconst (pc := 77) dX6_inOrder_77 kc_0 ?_
      refine j_v2 (pc := 78) (ci := 6) dX6_inOrder_78 mc_X6_needleBy ml_X6_170 im_X6_needleBy se_X6_needleBy rfl rfl (by apply lkE; (with_reducible first | exact lkX_1 | exact lkX_27 | exact lkX_p | exact lkX_34 | exact lkX_35 | exact lkX_107 | exact lkX_125 | exact lkX_127 | exact lkX_28 | exact lkX_30 | exact lkX_32 | exact lkX_p1 | exact lkX_p3 | exact lkX_p5 | exact lkX_p7 | exact lkX_p9 | exact lkX_2 | exact lkX_109 | exact lkX_4 | exact lkX_d); rfl) (by omega) (x_needleBy) (Nat.le_of_ble_eq_true rfl) ?_
      refine j_istore (pc := 81) dX6_inOrder_81 (Nat.le_of_ble_eq_true rfl) rfl ?_
      refine j_iconst (pc := 83) dX6_inOrder_83 kc_0 ?_
      refine j_istore (pc := 84) dX6_inOrder_84 (Nat.le_of_ble_eq_true rfl) rfl ?_
      refine j_iload_n (pc := 86) dX6_inOrder_86 rfl ?_
      refine j_iload (pc := 87) dX6_inOrder_87 rfl ?_
      refine j_s1 (pc := 89) dX6_inOrder_89 mc_X6_bit ml_X6_178 sm_X6_bit (by omega) (c_bit) (Nat.le_of_ble_eq_true rfl) ?_
      refine j_iconst (pc := 92) dX6_inOrder_92 kc_m1 ?_
      refine j_ixor (pc := 93) dX6_inOrder_93 ?_
      refine j_iand (pc := 94) dX6_inOrder_94 ?_
      refine j_istore_n (pc := 95) dX6_inOrder_95 rfl (Nat.le_of_ble_eq_true rfl) rfl ?_
      refine j_iinc (pc := 96) dX6_inOrder_96 rfl rfl (Nat.le_of_ble_eq_true rfl) rfl ?_
      refine j_goto (pc := 99) (tgt := 27) dX6_inOrder_99 rfl ?_
      rw [nI_s]
      refine ih (e + 1) _ _ _ _ _ (by omega) ?_
      simpa [ioI, *] using hq
    · refine j_bipush (pc := 53) dX6_inOrder_53 kb_m9 ?_
      refine j_ireturn (pc := 55) dX6_inOrder_55 rfl ?_
      simpa [ioI, *] using hq

set_option maxRecDepth 20000 in
set_option maxHeartbeats 1000000 in
theorem x_inOrder {left : Int32} {kk2 : Nat} (hkk : kk2 ≤ 5) {n : Nat} (hdd : P.2.2.1 = nI n) (hn : n ≤ 6) : CD g 19 mX6_inOrder [.ref 1, .int (nI kk2), .int left] (W1 scr tl lt lc rd sw P D S kk nx ring bu im kept tb tr tc ts) (some (.int (ioI P S bu n (kk2 + 1) 0 left S.1 S.2.1 (-9)))) (W1 scr tl lt lc rd sw P D S kk nx ring bu im kept tb tr tc ts) := by
  refine C.of (by decide +kernel) (by simp [Value.category]) (Nat.le_of_ble_eq_true rfl) ?_
  change J g mX6_inOrder 19 0 0 _ (W1 scr tl lt lc rd sw P D S kk nx ring bu im kept tb tr tc ts) 0 [some (.ref 1), some (.int (nI kk2)), some (.int left), none, none, none, none, none] []
  refine j_iload_n (pc := 0) dX6_inOrder_0 rfl ?_
  refine j_istore_n (pc := 1) dX6_inOrder_1 rfl (Nat.le_of_ble_eq_true rfl) rfl ?_
  refine j_aload_n (pc := 2) dX6_inOrder_2 rfl ?_
  refine j_getf (pc := 3) dX6_inOrder_3 fl_X6_40 (by apply lkE; (with_reducible first | exact lkX_1 | exact lkX_27 | exact lkX_p | exact lkX_34 | exact lkX_35 | exact lkX_107 | exact lkX_125 | exact lkX_127 | exact lkX_28 | exact lkX_30 | exact lkX_32 | exact lkX_p1 | exact lkX_p3 | exact lkX_p5 | exact lkX_p7 | exact lkX_p9 | exact lkX_2 | exact lkX_109 | exact lkX_4 | exact lkX_d); rfl) rfl ?_
  refine j_getf (pc := 6) dX6_inOrder_6 fl_X6_147 (by apply lkE; (with_reducible first | exact lkX_1 | exact lkX_27 | exact lkX_p | exact lkX_34 | exact lkX_35 | exact lkX_107 | exact lkX_125 | exact lkX_127 | exact lkX_28 | exact lkX_30 | exact lkX_32 | exact lkX_p1 | exact lkX_p3 | exact lkX_p5 | exact lkX_p7 | exact lkX_p9 | exact lkX_2 | exact lkX_109 | exact lkX_4 | exact lkX_d); rfl) rfl ?_
  refine j_istore (pc := 9) dX6_inOrder_9 (Nat.le_of_ble_eq_true rfl) rfl ?_
  refine j_aload_n (pc := 11) dX6_inOrder_11 rfl ?_
  refine j_getf (pc := 12) dX6_inOrder_12 fl_X6_40 (by apply lkE; (with_reducible first | exact lkX_1 | exact lkX_27 | exact lkX_p | exact lkX_34 | exact lkX_35 | exact lkX_107 | exact lkX_125 | exact lkX_127 | exact lkX_28 | exact lkX_30 | exact lkX_32 | exact lkX_p1 | exact lkX_p3 | exact lkX_p5 | exact lkX_p7 | exact lkX_p9 | exact lkX_2 | exact lkX_109 | exact lkX_4 | exact lkX_d); rfl) rfl ?_
  refine j_getf (pc := 15) dX6_inOrder_15 fl_X6_150 (by apply lkE; (with_reducible first | exact lkX_1 | exact lkX_27 | exact lkX_p | exact lkX_34 | exact lkX_35 | exact lkX_107 | exact lkX_125 | exact lkX_127 | exact lkX_28 | exact lkX_30 | exact lkX_32 | exact lkX_p1 | exact lkX_p3 | exact lkX_p5 | exact lkX_p7 | exact lkX_p9 | exact lkX_2 | exact lkX_109 | exact lkX_4 | exact lkX_d); rfl) rfl ?_
  refine j_istore (pc := 18) dX6_inOrder_18 (Nat.le_of_ble_eq_true rfl) rfl ?_
  refine j_bipush (pc := 20) dX6_inOrder_20 kb_m9 ?_
  refine j_istore (pc := 22) dX6_inOrder_22 (Nat.le_of_ble_eq_true rfl) rfl ?_
  refine j_iconst (pc := 24) dX6_inOrder_24 kc_0 ?_
  refine j_istore (pc := 25) dX6_inOrder_25 (Nat.le_of_ble_eq_true rfl) rfl ?_
  exact xl_inOrder hkk hdd hn (kk2 + 1) 0 left S.1 S.2.1 (-9) left (by omega) ⟨rfl, rfl⟩

def buStep (P : ParV) (S : ScV) (k : Nat) (f : Fn) : Fn := upd f k (bdI P S (nI k))
set_option maxRecDepth 20000 in
set_option maxHeartbeats 1000000 in
theorem xl_order {k : Int32} {n : Nat} (hdd : P.2.2.1 = nI n) (hn : n ≤ 6) : ∀ (m i : Nat) (bu : Fn), i + m = n → J g mX6_order 20 0 0 Q (W1 scr tl lt lc rd sw P D S kk nx ring (iter (buStep P S) m i bu) im kept tb tr tc ts) 43 [some (.ref 1), some (.int k), some (.int (nI n))] [] → J g mX6_order 20 0 0 Q (W1 scr tl lt lc rd sw P D S kk nx ring bu im kept tb tr tc ts) 13 [some (.ref 1), some (.int k), some (.int (nI i))] [] := by
  intro m
  induction m with
  | zero =>
    intro i bu hk hq
    refine j_iload_n (pc := 13) dX6_order_13 rfl ?_
    refine j_aload_n (pc := 14) dX6_order_14 rfl ?_
    refine j_getf (pc := 15) dX6_order_15 fl_X6_30 (by apply lkE; (with_reducible first | exact lkX_1 | exact lkX_27 | exact lkX_p | exact lkX_34 | exact lkX_35 | exact lkX_107 | exact lkX_125 | exact lkX_127 | exact lkX_28 | exact lkX_30 | exact lkX_32 | exact lkX_p1 | exact lkX_p3 | exact lkX_p5 | exact lkX_p7 | exact lkX_p9 | exact lkX_2 | exact lkX_109 | exact lkX_4 | exact lkX_d); rfl) rfl ?_
    refine j_getf (pc := 18) dX6_order_18 fl_X6_189 (by apply lkE; (with_reducible first | exact lkX_1 | exact lkX_27 | exact lkX_p | exact lkX_34 | exact lkX_35 | exact lkX_107 | exact lkX_125 | exact lkX_127 | exact lkX_28 | exact lkX_30 | exact lkX_32 | exact lkX_p1 | exact lkX_p3 | exact lkX_p5 | exact lkX_p7 | exact lkX_p9 | exact lkX_2 | exact lkX_109 | exact lkX_4 | exact lkX_d); rfl) rfl ?_
    refine j_icmp_ge (pc := 21) (tgt := 43) dX6_order_21 rfl (fun _ => ?_) (fun zc21 => absurd (by rw [hdd]; exact nI_le (by omega) (by omega)) zc21)
    have e : i = n := by omega
    subst e
    exact hq
  | succ m ih =>
    intro i bu hk hq
    refine j_iload_n (pc := 13) dX6_order_13 rfl ?_
    refine j_aload_n (pc := 14) dX6_order_14 rfl ?_
    refine j_getf (pc := 15) dX6_order_15 fl_X6_30 (by apply lkE; (with_reducible first | exact lkX_1 | exact lkX_27 | exact lkX_p | exact lkX_34 | exact lkX_35 | exact lkX_107 | exact lkX_125 | exact lkX_127 | exact lkX_28 | exact lkX_30 | exact lkX_32 | exact lkX_p1 | exact lkX_p3 | exact lkX_p5 | exact lkX_p7 | exact lkX_p9 | exact lkX_2 | exact lkX_109 | exact lkX_4 | exact lkX_d); rfl) rfl ?_
    refine j_getf (pc := 18) dX6_order_18 fl_X6_189 (by apply lkE; (with_reducible first | exact lkX_1 | exact lkX_27 | exact lkX_p | exact lkX_34 | exact lkX_35 | exact lkX_107 | exact lkX_125 | exact lkX_127 | exact lkX_28 | exact lkX_30 | exact lkX_32 | exact lkX_p1 | exact lkX_p3 | exact lkX_p5 | exact lkX_p7 | exact lkX_p9 | exact lkX_2 | exact lkX_109 | exact lkX_4 | exact lkX_d); rfl) rfl ?_
    refine j_icmp_ge (pc := 21) (tgt := 43) dX6_order_21 rfl (fun zc21 => absurd zc21 (by rw [hdd]; exact nI_ge (by omega) (by omega))) (fun _ => ?_)
    refine j_aload_n (pc := 24) dX6_order_24 rfl ?_
    refine j_getf (pc := 25) dX6_order_25 fl_X6_55 (by apply lkE; (with_reducible first | exact lkX_1 | exact lkX_27 | exact lkX_p | exact lkX_34 | exact lkX_35 | exact lkX_107 | exact lkX_125 | exact lkX_127 | exact lkX_28 | exact lkX_30 | exact lkX_32 | exact lkX_p1 | exact lkX_p3 | exact lkX_p5 | exact lkX_p7 | exact lkX_p9 | exact lkX_2 | exact lkX_109 | exact lkX_4 | exact lkX_d); rfl) rfl ?_
    refine j_iload_n (pc := 28) dX6_order_28 rfl ?_
    refine j_aload_n (pc := 29) dX6_order_29 rfl ?_
    refine j_iload_n (pc := 30) dX6_order_30 rfl ?_
    refine j_v1 (pc := 31) (ci := 6) dX6_order_31 mc_X6_burdenOf ml_X6_192 im_X6_burdenOf se_X6_burdenOf rfl rfl (by apply lkE; (with_reducible first | exact lkX_1 | exact lkX_27 | exact lkX_p | exact lkX_34 | exact lkX_35 | exact lkX_107 | exact lkX_125 | exact lkX_127 | exact lkX_28 | exact lkX_30 | exact lkX_32 | exact lkX_p1 | exact lkX_p3 | exact lkX_p5 | exact lkX_p7 | exact lkX_p9 | exact lkX_2 | exact lkX_109 | exact lkX_4 | exact lkX_d); rfl) (by omega) (x_burdenOf) (Nat.le_of_ble_eq_true rfl) ?_
    refine j_v2n (pc := 34) (ci := 3) dX6_order_34 mc_X3_put ml_X6_79 im_X3_put se_X3_put rfl rfl (by apply lkE; (with_reducible first | exact lkX_1 | exact lkX_27 | exact lkX_p | exact lkX_34 | exact lkX_35 | exact lkX_107 | exact lkX_125 | exact lkX_127 | exact lkX_28 | exact lkX_30 | exact lkX_32 | exact lkX_p1 | exact lkX_p3 | exact lkX_p5 | exact lkX_p7 | exact lkX_p9 | exact lkX_2 | exact lkX_109 | exact lkX_4 | exact lkX_d); rfl) (by omega) (c_put (n := 6) (by decide) (by apply lkE; (with_reducible first | exact lkX_107); rfl) (by apply lkE; (with_reducible first | exact lkX_108); rfl)) (Nat.le_of_ble_eq_true rfl) ?_
    rw [rPut_in (show i < 6 by omega) (by decide)]
    rw [show (8, iv 6 (upd bu i (bdI P S (nI i)))) = ia 6 (upd bu i (bdI P S (nI i))) from rfl, upX_108]
    refine j_iinc (pc := 37) dX6_order_37 rfl rfl (Nat.le_of_ble_eq_true rfl) rfl ?_
    refine j_goto (pc := 40) (tgt := 13) dX6_order_40 rfl ?_
    rw [nI_s]
    exact ih (i + 1) _ (by omega) hq

def orS (S : ScV) (n : Nat) : Int32 := allI (nI n) &&& (iter (chStep S) n 0 0 ^^^ -1)
theorem jin_k {k : Int32} (h : jin k (-1) 5 = true) : k = -1 ∨ ∃ j : Nat, j ≤ 5 ∧ k = nI j := by
  simp only [jin, Bool.and_eq_true, decide_eq_true_eq, Int32.lt_iff_toInt_lt] at h
  have h1 : ¬ k.toInt < -1 := h.1
  have h2 : ¬ 5 < k.toInt := h.2
  by_cases e : k.toInt = -1
  · exact Or.inl (Int32.toInt_inj.mp (by rw [e]; rfl))
  · refine Or.inr ⟨k.toInt.toNat, by omega, Int32.toInt_inj.mp ?_⟩
    rw [nI_toInt (by omega)]
    omega
set_option maxRecDepth 20000 in
set_option maxHeartbeats 1000000 in
theorem x_order {k : Int32} {n : Nat} (hdd : P.2.2.1 = nI n) (hn : n ≤ 6) (h1 : jin k (-1) 5 = false → Q (some (.int (-1))) (W1 scr tl lt lc rd sw P D S kk nx ring bu im kept tb tr tc ts)) (h2 : k = -1 → Q (some (.int (leI P S (iter (buStep P S) n 0 bu) n 6 (orS S n) S.1 S.2.1))) (W1 scr tl lt lc rd sw P D S kk nx ring (iter (buStep P S) n 0 bu) im kept tb tr tc ts)) (h3 : ∀ j : Nat, j ≤ 5 → k = nI j → Q (some (.int (ioI P S (iter (buStep P S) n 0 bu) n (j + 1) 0 (orS S n) S.1 S.2.1 (-9)))) (W1 scr tl lt lc rd sw P D S kk nx ring (iter (buStep P S) n 0 bu) im kept tb tr tc ts)) : C g 20 0 0 mX6_order [.ref 1, .int k] (W1 scr tl lt lc rd sw P D S kk nx ring bu im kept tb tr tc ts) Q := by
  refine C.of (by decide +kernel) (by simp [Value.category]) (Nat.le_of_ble_eq_true rfl) ?_
  change J g mX6_order 20 0 0 _ (W1 scr tl lt lc rd sw P D S kk nx ring bu im kept tb tr tc ts) 0 [some (.ref 1), some (.int k), none] []
  refine j_iload_n (pc := 0) dX6_order_0 rfl ?_
  refine j_iconst (pc := 1) dX6_order_1 kc_m1 ?_
  refine j_iconst (pc := 2) dX6_order_2 kc_5 ?_
  refine j_s3 (pc := 3) dX6_order_3 mc_X6_isWithin ml_X6_71 sm_X6_isWithin (by omega) (c_isWithin) (Nat.le_of_ble_eq_true rfl) ?_
  refine j_bne (pc := 6) (tgt := 11) dX6_order_6 rfl (fun zc6 => ?_) (fun zc6 => ?_)
  · refine j_iconst (pc := 11) dX6_order_11 kc_0 ?_
    refine j_istore_n (pc := 12) dX6_order_12 rfl (Nat.le_of_ble_eq_true rfl) rfl ?_
    rcases jin_k zc6 with rfl | ⟨j, hj, rfl⟩
    · refine xl_order hdd hn n 0 bu (by omega) ?_
      refine j_aload_n (pc := 43) dX6_order_43 rfl ?_
      refine j_getf (pc := 44) dX6_order_44 fl_X6_30 (by apply lkE; (with_reducible first | exact lkX_1 | exact lkX_27 | exact lkX_p | exact lkX_34 | exact lkX_35 | exact lkX_107 | exact lkX_125 | exact lkX_127 | exact lkX_28 | exact lkX_30 | exact lkX_32 | exact lkX_p1 | exact lkX_p3 | exact lkX_p5 | exact lkX_p7 | exact lkX_p9 | exact lkX_2 | exact lkX_109 | exact lkX_4 | exact lkX_d); rfl) rfl ?_
      refine j_getf (pc := 47) dX6_order_47 fl_X6_189 (by apply lkE; (with_reducible first | exact lkX_1 | exact lkX_27 | exact lkX_p | exact lkX_34 | exact lkX_35 | exact lkX_107 | exact lkX_125 | exact lkX_127 | exact lkX_28 | exact lkX_30 | exact lkX_32 | exact lkX_p1 | exact lkX_p3 | exact lkX_p5 | exact lkX_p7 | exact lkX_p9 | exact lkX_2 | exact lkX_109 | exact lkX_4 | exact lkX_d); rfl) rfl ?_
      refine j_s1 (pc := 50) dX6_order_50 mc_X6_allOf ml_X6_195 sm_X6_allOf (by omega) (c_allOf) (Nat.le_of_ble_eq_true rfl) ?_
      refine j_aload_n (pc := 53) dX6_order_53 rfl ?_
      refine j_v0 (pc := 54) (ci := 6) dX6_order_54 mc_X6_whoIsChalked ml_X6_156 im_X6_whoIsChalked se_X6_whoIsChalked rfl rfl (by apply lkE; (with_reducible first | exact lkX_1 | exact lkX_27 | exact lkX_p | exact lkX_34 | exact lkX_35 | exact lkX_107 | exact lkX_125 | exact lkX_127 | exact lkX_28 | exact lkX_30 | exact lkX_32 | exact lkX_p1 | exact lkX_p3 | exact lkX_p5 | exact lkX_p7 | exact lkX_p9 | exact lkX_2 | exact lkX_109 | exact lkX_4 | exact lkX_d); rfl) (by omega) (x_whoIsChalked hdd hn) (Nat.le_of_ble_eq_true rfl) ?_
      refine j_iconst (pc := 57) dX6_order_57 kc_m1 ?_
      refine j_ixor (pc := 58) dX6_order_58 ?_
      refine j_iand (pc := 59) dX6_order_59 ?_
      refine j_istore_n (pc := 60) dX6_order_60 rfl (Nat.le_of_ble_eq_true rfl) rfl ?_
      refine j_iload_n (pc := 61) dX6_order_61 rfl ?_
      refine j_if_ge (pc := 62) (tgt := 86) dX6_order_62 rfl (fun zc62 => absurd zc62 (show ¬ (0 : Int32) ≤ -1 by decide)) (fun _ => ?_)
      refine j_aload_n (pc := 65) dX6_order_65 rfl ?_
      refine j_iload_n (pc := 66) dX6_order_66 rfl ?_
      refine j_aload_n (pc := 67) dX6_order_67 rfl ?_
      refine j_getf (pc := 68) dX6_order_68 fl_X6_40 (by apply lkE; (with_reducible first | exact lkX_1 | exact lkX_27 | exact lkX_p | exact lkX_34 | exact lkX_35 | exact lkX_107 | exact lkX_125 | exact lkX_127 | exact lkX_28 | exact lkX_30 | exact lkX_32 | exact lkX_p1 | exact lkX_p3 | exact lkX_p5 | exact lkX_p7 | exact lkX_p9 | exact lkX_2 | exact lkX_109 | exact lkX_4 | exact lkX_d); rfl) rfl ?_
      refine j_getf (pc := 71) dX6_order_71 fl_X6_147 (by apply lkE; (with_reducible first | exact lkX_1 | exact lkX_27 | exact lkX_p | exact lkX_34 | exact lkX_35 | exact lkX_107 | exact lkX_125 | exact lkX_127 | exact lkX_28 | exact lkX_30 | exact lkX_32 | exact lkX_p1 | exact lkX_p3 | exact lkX_p5 | exact lkX_p7 | exact lkX_p9 | exact lkX_2 | exact lkX_109 | exact lkX_4 | exact lkX_d); rfl) rfl ?_
      refine j_aload_n (pc := 74) dX6_order_74 rfl ?_
      refine j_getf (pc := 75) dX6_order_75 fl_X6_40 (by apply lkE; (with_reducible first | exact lkX_1 | exact lkX_27 | exact lkX_p | exact lkX_34 | exact lkX_35 | exact lkX_107 | exact lkX_125 | exact lkX_127 | exact lkX_28 | exact lkX_30 | exact lkX_32 | exact lkX_p1 | exact lkX_p3 | exact lkX_p5 | exact lkX_p7 | exact lkX_p9 | exact lkX_2 | exact lkX_109 | exact lkX_4 | exact lkX_d); rfl) rfl ?_
      refine j_getf (pc := 78) dX6_order_78 fl_X6_150 (by apply lkE; (with_reducible first | exact lkX_1 | exact lkX_27 | exact lkX_p | exact lkX_34 | exact lkX_35 | exact lkX_107 | exact lkX_125 | exact lkX_127 | exact lkX_28 | exact lkX_30 | exact lkX_32 | exact lkX_p1 | exact lkX_p3 | exact lkX_p5 | exact lkX_p7 | exact lkX_p9 | exact lkX_2 | exact lkX_109 | exact lkX_4 | exact lkX_d); rfl) rfl ?_
      refine j_iconst (pc := 81) dX6_order_81 kc_0 ?_
      refine j_v4 (pc := 82) (ci := 6) dX6_order_82 mc_X6_leastError ml_X6_198 im_X6_leastError se_X6_leastError rfl rfl (by apply lkE; (with_reducible first | exact lkX_1 | exact lkX_27 | exact lkX_p | exact lkX_34 | exact lkX_35 | exact lkX_107 | exact lkX_125 | exact lkX_127 | exact lkX_28 | exact lkX_30 | exact lkX_32 | exact lkX_p1 | exact lkX_p3 | exact lkX_p5 | exact lkX_p7 | exact lkX_p9 | exact lkX_2 | exact lkX_109 | exact lkX_4 | exact lkX_d); rfl) (by omega) (x_leastError hdd hn 6 _ _ _ (by omega)) (Nat.le_of_ble_eq_true rfl) ?_
      refine j_ireturn (pc := 85) dX6_order_85 rfl ?_
      rw [hdd]
      exact h2 rfl
    · refine xl_order hdd hn n 0 bu (by omega) ?_
      refine j_aload_n (pc := 43) dX6_order_43 rfl ?_
      refine j_getf (pc := 44) dX6_order_44 fl_X6_30 (by apply lkE; (with_reducible first | exact lkX_1 | exact lkX_27 | exact lkX_p | exact lkX_34 | exact lkX_35 | exact lkX_107 | exact lkX_125 | exact lkX_127 | exact lkX_28 | exact lkX_30 | exact lkX_32 | exact lkX_p1 | exact lkX_p3 | exact lkX_p5 | exact lkX_p7 | exact lkX_p9 | exact lkX_2 | exact lkX_109 | exact lkX_4 | exact lkX_d); rfl) rfl ?_
      refine j_getf (pc := 47) dX6_order_47 fl_X6_189 (by apply lkE; (with_reducible first | exact lkX_1 | exact lkX_27 | exact lkX_p | exact lkX_34 | exact lkX_35 | exact lkX_107 | exact lkX_125 | exact lkX_127 | exact lkX_28 | exact lkX_30 | exact lkX_32 | exact lkX_p1 | exact lkX_p3 | exact lkX_p5 | exact lkX_p7 | exact lkX_p9 | exact lkX_2 | exact lkX_109 | exact lkX_4 | exact lkX_d); rfl) rfl ?_
      refine j_s1 (pc := 50) dX6_order_50 mc_X6_allOf ml_X6_195 sm_X6_allOf (by omega) (c_allOf) (Nat.le_of_ble_eq_true rfl) ?_
      refine j_aload_n (pc := 53) dX6_order_53 rfl ?_
      refine j_v0 (pc := 54) (ci := 6) dX6_order_54 mc_X6_whoIsChalked ml_X6_156 im_X6_whoIsChalked se_X6_whoIsChalked rfl rfl (by apply lkE; (with_reducible first | exact lkX_1 | exact lkX_27 | exact lkX_p | exact lkX_34 | exact lkX_35 | exact lkX_107 | exact lkX_125 | exact lkX_127 | exact lkX_28 | exact lkX_30 | exact lkX_32 | exact lkX_p1 | exact lkX_p3 | exact lkX_p5 | exact lkX_p7 | exact lkX_p9 | exact lkX_2 | exact lkX_109 | exact lkX_4 | exact lkX_d); rfl) (by omega) (x_whoIsChalked hdd hn) (Nat.le_of_ble_eq_true rfl) ?_
      refine j_iconst (pc := 57) dX6_order_57 kc_m1 ?_
      refine j_ixor (pc := 58) dX6_order_58 ?_
      refine j_iand (pc := 59) dX6_order_59 ?_
      refine j_istore_n (pc := 60) dX6_order_60 rfl (Nat.le_of_ble_eq_true rfl) rfl ?_
      refine j_iload_n (pc := 61) dX6_order_61 rfl ?_
      refine j_if_ge (pc := 62) (tgt := 86) dX6_order_62 rfl (fun _ => ?_) (fun zc62 => absurd (show (0 : Int32) ≤ nI j from nI_pos' (by omega)) zc62)
      refine j_aload_n (pc := 86) dX6_order_86 rfl ?_
      refine j_iload_n (pc := 87) dX6_order_87 rfl ?_
      refine j_iload_n (pc := 88) dX6_order_88 rfl ?_
      refine j_v2 (pc := 89) (ci := 6) dX6_order_89 mc_X6_inOrder ml_X6_202 im_X6_inOrder se_X6_inOrder rfl rfl (by apply lkE; (with_reducible first | exact lkX_1 | exact lkX_27 | exact lkX_p | exact lkX_34 | exact lkX_35 | exact lkX_107 | exact lkX_125 | exact lkX_127 | exact lkX_28 | exact lkX_30 | exact lkX_32 | exact lkX_p1 | exact lkX_p3 | exact lkX_p5 | exact lkX_p7 | exact lkX_p9 | exact lkX_2 | exact lkX_109 | exact lkX_4 | exact lkX_d); rfl) (by omega) (x_inOrder hj hdd hn) (Nat.le_of_ble_eq_true rfl) ?_
      refine j_ireturn (pc := 92) dX6_order_92 rfl ?_
      rw [hdd]
      exact h3 j hj rfl
  · refine j_iconst (pc := 9) dX6_order_9 kc_m1 ?_
    refine j_ireturn (pc := 10) dX6_order_10 rfl ?_
    exact h1 zc6

end

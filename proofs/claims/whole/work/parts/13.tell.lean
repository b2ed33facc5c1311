/-! what the class tells -/
section
variable {g : GG} {h : List AC} {Q : Option Value → List AC → Prop} {scr : AC} {tl : List AC} {lt : Fn} {lc : Int32} {rd : RdV} {sw : Bool} {P : ParV} {D : ParV} {S : ScV} {kk : Int32} {nx : Int32} {ring : Nat → ScV} {bu : Fn} {im : Nat → ScV} {kept : Int32} {tb : Fn} {tr : Fn} {tc : Int32} {ts : Int64}
def nbI (ru pin nd ld : Int32) : Int32 := imin (if nd < ld - ru then ld - ru else if ld + ru < nd then ld + ru else nd) pin
def nbS (P : ParV) (S : ScV) (nd ld : Int32) : Int32 := nbI S.2.2.1 P.2.2.2.2.1 nd ld
def bdI (P : ParV) (S : ScV) (l : Int32) : Int32 := rAt 6 P.2.2.2.2.2.2.2.1 l + rAt 6 S.2.2.2.1 l + sumI P.2.2.2.2.2.2.1 (rAt 6 S.2.2.2.2.1 l) 6 0 0
def ldI (P : ParV) (S : ScV) (l : Int32) : Int32 := imax 0 (bdI P S l + S.2.1)
def rdI (P : ParV) (S : ScV) (l : Int32) : Int32 := nbS P S S.1 (ldI P S l)
def erI (P : ParV) (S : ScV) (l : Int32) : Int32 := if isCh S l then rAt 6 S.2.2.2.2.2 l - bdI P S l else -1000000
def chStep (S : ScV) (k : Nat) (a : Int32) : Int32 := if isCh S (nI k) then a ||| bitI (nI k) else a
def wdStep (S : ScV) (d : Int32) (k : Nat) (a : Int32) : Int32 := if tbit (rAt 6 S.2.2.2.2.1 (nI k)) d then a ||| bitI (nI k) else a
set_option maxRecDepth 20000 in
set_option maxHeartbeats 1000000 in
theorem x_needleBy {nd ld : Int32} : CD g 1 mX6_needleBy [.ref 1, .int nd, .int ld] (W1 scr tl lt lc rd sw P D S kk nx ring bu im kept tb tr tc ts) (some (.int (nbS P S nd ld))) (W1 scr tl lt lc rd sw P D S kk nx ring bu im kept tb tr tc ts) := by
  refine C.of (by decide +kernel) (by simp [Value.category]) (Nat.le_of_ble_eq_true rfl) ?_
  change J g mX6_needleBy 1 0 0 _ (W1 scr tl lt lc rd sw P D S kk nx ring bu im kept tb tr tc ts) 0 [some (.ref 1), some (.int nd), some (.int ld), none] []
  refine j_iload_n (pc := 0) dX6_needleBy_0 rfl ?_
  refine j_istore_n (pc := 1) dX6_needleBy_1 rfl (Nat.le_of_ble_eq_true rfl) rfl ?_
  refine j_iload_n (pc := 2) dX6_needleBy_2 rfl ?_
  refine j_iload_n (pc := 3) dX6_needleBy_3 rfl ?_
  refine j_aload_n (pc := 4) dX6_needleBy_4 rfl ?_
  refine j_getf (pc := 5) dX6_needleBy_5 fl_X6_40 (by apply lkE; (with_reducible first | exact lkX_1 | exact lkX_27 | exact lkX_p | exact lkX_34 | exact lkX_35 | exact lkX_107 | exact lkX_125 | exact lkX_127 | exact lkX_28 | exact lkX_30 | exact lkX_32 | exact lkX_p1 | exact lkX_p3 | exact lkX_p5 | exact lkX_p7 | exact lkX_p9 | exact lkX_2 | exact lkX_109 | exact lkX_4 | exact lkX_d); rfl) rfl ?_
  refine j_getf (pc := 8) dX6_needleBy_8 fl_X6_153 (by apply lkE; (with_reducible first | exact lkX_1 | exact lkX_27 | exact lkX_p | exact lkX_34 | exact lkX_35 | exact lkX_107 | exact lkX_125 | exact lkX_127 | exact lkX_28 | exact lkX_30 | exact lkX_32 | exact lkX_p1 | exact lkX_p3 | exact lkX_p5 | exact lkX_p7 | exact lkX_p9 | exact lkX_2 | exact lkX_109 | exact lkX_4 | exact lkX_d); rfl) rfl ?_
  refine j_isub (pc := 11) dX6_needleBy_11 ?_
  refine j_icmp_ge (pc := 12) (tgt := 28) dX6_needleBy_12 rfl (fun zc12 => ?_) (fun zc12 => ?_)
  · refine j_iload_n (pc := 28) dX6_needleBy_28 rfl ?_
    refine j_iload_n (pc := 29) dX6_needleBy_29 rfl ?_
    refine j_aload_n (pc := 30) dX6_needleBy_30 rfl ?_
    refine j_getf (pc := 31) dX6_needleBy_31 fl_X6_40 (by apply lkE; (with_reducible first | exact lkX_1 | exact lkX_27 | exact lkX_p | exact lkX_34 | exact lkX_35 | exact lkX_107 | exact lkX_125 | exact lkX_127 | exact lkX_28 | exact lkX_30 | exact lkX_32 | exact lkX_p1 | exact lkX_p3 | exact lkX_p5 | exact lkX_p7 | exact lkX_p9 | exact lkX_2 | exact lkX_109 | exact lkX_4 | exact lkX_d); rfl) rfl ?_
    refine j_getf (pc := 34) dX6_needleBy_34 fl_X6_153 (by apply lkE; (with_reducible first | exact lkX_1 | exact lkX_27 | exact lkX_p | exact lkX_34 | exact lkX_35 | exact lkX_107 | exact lkX_125 | exact lkX_127 | exact lkX_28 | exact lkX_30 | exact lkX_32 | exact lkX_p1 | exact lkX_p3 | exact lkX_p5 | exact lkX_p7 | exact lkX_p9 | exact lkX_2 | exact lkX_109 | exact lkX_4 | exact lkX_d); rfl) rfl ?_
    refine j_iadd (pc := 37) dX6_needleBy_37 ?_
    refine j_icmp_le (pc := 38) (tgt := 51) dX6_needleBy_38 rfl (fun zc38 => ?_) (fun zc38 => ?_)
    · refine j_iload_n (pc := 51) dX6_needleBy_51 rfl ?_
      refine j_aload_n (pc := 52) dX6_needleBy_52 rfl ?_
      refine j_getf (pc := 53) dX6_needleBy_53 fl_X6_30 (by apply lkE; (with_reducible first | exact lkX_1 | exact lkX_27 | exact lkX_p | exact lkX_34 | exact lkX_35 | exact lkX_107 | exact lkX_125 | exact lkX_127 | exact lkX_28 | exact lkX_30 | exact lkX_32 | exact lkX_p1 | exact lkX_p3 | exact lkX_p5 | exact lkX_p7 | exact lkX_p9 | exact lkX_2 | exact lkX_109 | exact lkX_4 | exact lkX_d); rfl) rfl ?_
      refine j_getf (pc := 56) dX6_needleBy_56 fl_X6_270 (by apply lkE; (with_reducible first | exact lkX_1 | exact lkX_27 | exact lkX_p | exact lkX_34 | exact lkX_35 | exact lkX_107 | exact lkX_125 | exact lkX_127 | exact lkX_28 | exact lkX_30 | exact lkX_32 | exact lkX_p1 | exact lkX_p3 | exact lkX_p5 | exact lkX_p7 | exact lkX_p9 | exact lkX_2 | exact lkX_109 | exact lkX_4 | exact lkX_d); rfl) rfl ?_
      refine j_min (pc := 59) dX6_needleBy_59 ml_X6_278 (by omega) (Nat.le_of_ble_eq_true rfl) ?_
      refine j_ireturn (pc := 62) dX6_needleBy_62 rfl ?_
      refine ⟨?_, rfl⟩
      simp only [nbS, nbI]
      first
        | (rw [if_pos (Int32.not_le.mp zc12)]; done)
        | (rw [if_neg (Int32.not_lt.mpr zc12), if_neg (Int32.not_lt.mpr zc38)]; done)
        | (rw [if_neg (Int32.not_lt.mpr zc12), if_pos (Int32.not_le.mp zc38)]; done)
    · refine j_iload_n (pc := 41) dX6_needleBy_41 rfl ?_
      refine j_aload_n (pc := 42) dX6_needleBy_42 rfl ?_
      refine j_getf (pc := 43) dX6_needleBy_43 fl_X6_40 (by apply lkE; (with_reducible first | exact lkX_1 | exact lkX_27 | exact lkX_p | exact lkX_34 | exact lkX_35 | exact lkX_107 | exact lkX_125 | exact lkX_127 | exact lkX_28 | exact lkX_30 | exact lkX_32 | exact lkX_p1 | exact lkX_p3 | exact lkX_p5 | exact lkX_p7 | exact lkX_p9 | exact lkX_2 | exact lkX_109 | exact lkX_4 | exact lkX_d); rfl) rfl ?_
      refine j_getf (pc := 46) dX6_needleBy_46 fl_X6_153 (by apply lkE; (with_reducible first | exact lkX_1 | exact lkX_27 | exact lkX_p | exact lkX_34 | exact lkX_35 | exact lkX_107 | exact lkX_125 | exact lkX_127 | exact lkX_28 | exact lkX_30 | exact lkX_32 | exact lkX_p1 | exact lkX_p3 | exact lkX_p5 | exact lkX_p7 | exact lkX_p9 | exact lkX_2 | exact lkX_109 | exact lkX_4 | exact lkX_d); rfl) rfl ?_
      refine j_iadd (pc := 49) dX6_needleBy_49 ?_
      refine j_istore_n (pc := 50) dX6_needleBy_50 rfl (Nat.le_of_ble_eq_true rfl) rfl ?_
      refine j_iload_n (pc := 51) dX6_needleBy_51 rfl ?_
      refine j_aload_n (pc := 52) dX6_needleBy_52 rfl ?_
      refine j_getf (pc := 53) dX6_needleBy_53 fl_X6_30 (by apply lkE; (with_reducible first | exact lkX_1 | exact lkX_27 | exact lkX_p | exact lkX_34 | exact lkX_35 | exact lkX_107 | exact lkX_125 | exact lkX_127 | exact lkX_28 | exact lkX_30 | exact lkX_32 | exact lkX_p1 | exact lkX_p3 | exact lkX_p5 | exact lkX_p7 | exact lkX_p9 | exact lkX_2 | exact lkX_109 | exact lkX_4 | exact lkX_d); rfl) rfl ?_
      refine j_getf (pc := 56) dX6_needleBy_56 fl_X6_270 (by apply lkE; (with_reducible first | exact lkX_1 | exact lkX_27 | exact lkX_p | exact lkX_34 | exact lkX_35 | exact lkX_107 | exact lkX_125 | exact lkX_127 | exact lkX_28 | exact lkX_30 | exact lkX_32 | exact lkX_p1 | exact lkX_p3 | exact lkX_p5 | exact lkX_p7 | exact lkX_p9 | exact lkX_2 | exact lkX_109 | exact lkX_4 | exact lkX_d); rfl) rfl ?_
      refine j_min (pc := 59) dX6_needleBy_59 ml_X6_278 (by omega) (Nat.le_of_ble_eq_true rfl) ?_
      refine j_ireturn (pc := 62) dX6_needleBy_62 rfl ?_
      refine ⟨?_, rfl⟩
      simp only [nbS, nbI]
      first
        | (rw [if_pos (Int32.not_le.mp zc12)]; done)
        | (rw [if_neg (Int32.not_lt.mpr zc12), if_neg (Int32.not_lt.mpr zc38)]; done)
        | (rw [if_neg (Int32.not_lt.mpr zc12), if_pos (Int32.not_le.mp zc38)]; done)
  · refine j_iload_n (pc := 15) dX6_needleBy_15 rfl ?_
    refine j_aload_n (pc := 16) dX6_needleBy_16 rfl ?_
    refine j_getf (pc := 17) dX6_needleBy_17 fl_X6_40 (by apply lkE; (with_reducible first | exact lkX_1 | exact lkX_27 | exact lkX_p | exact lkX_34 | exact lkX_35 | exact lkX_107 | exact lkX_125 | exact lkX_127 | exact lkX_28 | exact lkX_30 | exact lkX_32 | exact lkX_p1 | exact lkX_p3 | exact lkX_p5 | exact lkX_p7 | exact lkX_p9 | exact lkX_2 | exact lkX_109 | exact lkX_4 | exact lkX_d); rfl) rfl ?_
    refine j_getf (pc := 20) dX6_needleBy_20 fl_X6_153 (by apply lkE; (with_reducible first | exact lkX_1 | exact lkX_27 | exact lkX_p | exact lkX_34 | exact lkX_35 | exact lkX_107 | exact lkX_125 | exact lkX_127 | exact lkX_28 | exact lkX_30 | exact lkX_32 | exact lkX_p1 | exact lkX_p3 | exact lkX_p5 | exact lkX_p7 | exact lkX_p9 | exact lkX_2 | exact lkX_109 | exact lkX_4 | exact lkX_d); rfl) rfl ?_
    refine j_isub (pc := 23) dX6_needleBy_23 ?_
    refine j_istore_n (pc := 24) dX6_needleBy_24 rfl (Nat.le_of_ble_eq_true rfl) rfl ?_
    refine j_goto (pc := 25) (tgt := 51) dX6_needleBy_25 rfl ?_
    refine j_iload_n (pc := 51) dX6_needleBy_51 rfl ?_
    refine j_aload_n (pc := 52) dX6_needleBy_52 rfl ?_
    refine j_getf (pc := 53) dX6_needleBy_53 fl_X6_30 (by apply lkE; (with_reducible first | exact lkX_1 | exact lkX_27 | exact lkX_p | exact lkX_34 | exact lkX_35 | exact lkX_107 | exact lkX_125 | exact lkX_127 | exact lkX_28 | exact lkX_30 | exact lkX_32 | exact lkX_p1 | exact lkX_p3 | exact lkX_p5 | exact lkX_p7 | exact lkX_p9 | exact lkX_2 | exact lkX_109 | exact lkX_4 | exact lkX_d); rfl) rfl ?_
    refine j_getf (pc := 56) dX6_needleBy_56 fl_X6_270 (by apply lkE; (with_reducible first | exact lkX_1 | exact lkX_27 | exact lkX_p | exact lkX_34 | exact lkX_35 | exact lkX_107 | exact lkX_125 | exact lkX_127 | exact lkX_28 | exact lkX_30 | exact lkX_32 | exact lkX_p1 | exact lkX_p3 | exact lkX_p5 | exact lkX_p7 | exact lkX_p9 | exact lkX_2 | exact lkX_109 | exact lkX_4 | exact lkX_d); rfl) rfl ?_
    refine j_min (pc := 59) dX6_needleBy_59 ml_X6_278 (by omega) (Nat.le_of_ble_eq_true rfl) ?_
    refine j_ireturn (pc := 62) dX6_needleBy_62 rfl ?_
    refine ⟨?_, rfl⟩
    simp only [nbS, nbI]
    first
      | (rw [if_pos (Int32.not_le.mp zc12)]; done)
      | (rw [if_neg (Int32.not_lt.mpr zc12), if_neg (Int32.not_lt.mpr zc38)]; done)
      | (rw [if_neg (Int32.not_lt.mpr zc12), if_pos (Int32.not_le.mp zc38)]; done)

set_option maxRecDepth 20000 in
set_option maxHeartbeats 1000000 in
theorem x_burdenOf {l : Int32} : CD g 2 mX6_burdenOf [.ref 1, .int l] (W1 scr tl lt lc rd sw P D S kk nx ring bu im kept tb tr tc ts) (some (.int (bdI P S l))) (W1 scr tl lt lc rd sw P D S kk nx ring bu im kept tb tr tc ts) := by
  refine C.of (by decide +kernel) (by simp [Value.category]) (Nat.le_of_ble_eq_true rfl) ?_
  change J g mX6_burdenOf 2 0 0 _ (W1 scr tl lt lc rd sw P D S kk nx ring bu im kept tb tr tc ts) 0 [some (.ref 1), some (.int l)] []
  refine j_aload_n (pc := 0) dX6_burdenOf_0 rfl ?_
  refine j_getf (pc := 1) dX6_burdenOf_1 fl_X6_30 (by apply lkE; (with_reducible first | exact lkX_1 | exact lkX_27 | exact lkX_p | exact lkX_34 | exact lkX_35 | exact lkX_107 | exact lkX_125 | exact lkX_127 | exact lkX_28 | exact lkX_30 | exact lkX_32 | exact lkX_p1 | exact lkX_p3 | exact lkX_p5 | exact lkX_p7 | exact lkX_p9 | exact lkX_2 | exact lkX_109 | exact lkX_4 | exact lkX_d); rfl) rfl ?_
  refine j_getf (pc := 4) dX6_burdenOf_4 fl_X6_117 (by apply lkE; (with_reducible first | exact lkX_1 | exact lkX_27 | exact lkX_p | exact lkX_34 | exact lkX_35 | exact lkX_107 | exact lkX_125 | exact lkX_127 | exact lkX_28 | exact lkX_30 | exact lkX_32 | exact lkX_p1 | exact lkX_p3 | exact lkX_p5 | exact lkX_p7 | exact lkX_p9 | exact lkX_2 | exact lkX_109 | exact lkX_4 | exact lkX_d); rfl) rfl ?_
  refine j_iload_n (pc := 7) dX6_burdenOf_7 rfl ?_
  refine j_v1 (pc := 8) (ci := 3) dX6_burdenOf_8 mc_X3_at ml_X6_107 im_X3_at se_X3_at rfl rfl (by apply lkE; (with_reducible first | exact lkX_1 | exact lkX_27 | exact lkX_p | exact lkX_34 | exact lkX_35 | exact lkX_107 | exact lkX_125 | exact lkX_127 | exact lkX_28 | exact lkX_30 | exact lkX_32 | exact lkX_p1 | exact lkX_p3 | exact lkX_p5 | exact lkX_p7 | exact lkX_p9 | exact lkX_2 | exact lkX_109 | exact lkX_4 | exact lkX_d); rfl) (by omega) (c_at (n := 6) (by decide) (by apply lkE; (with_reducible first | exact lkX_p3 | exact lkX_28 | exact lkX_30 | exact lkX_32 | exact lkX_107 | exact lkX_125 | exact lkX_127); rfl) (by apply lkE; (with_reducible first | exact lkX_p4 | exact lkX_29 | exact lkX_31 | exact lkX_33 | exact lkX_108 | exact lkX_126 | exact lkX_128); rfl)) (Nat.le_of_ble_eq_true rfl) ?_
  refine j_aload_n (pc := 11) dX6_burdenOf_11 rfl ?_
  refine j_getf (pc := 12) dX6_burdenOf_12 fl_X6_40 (by apply lkE; (with_reducible first | exact lkX_1 | exact lkX_27 | exact lkX_p | exact lkX_34 | exact lkX_35 | exact lkX_107 | exact lkX_125 | exact lkX_127 | exact lkX_28 | exact lkX_30 | exact lkX_32 | exact lkX_p1 | exact lkX_p3 | exact lkX_p5 | exact lkX_p7 | exact lkX_p9 | exact lkX_2 | exact lkX_109 | exact lkX_4 | exact lkX_d); rfl) rfl ?_
  refine j_getf (pc := 15) dX6_burdenOf_15 fl_X6_120 (by apply lkE; (with_reducible first | exact lkX_1 | exact lkX_27 | exact lkX_p | exact lkX_34 | exact lkX_35 | exact lkX_107 | exact lkX_125 | exact lkX_127 | exact lkX_28 | exact lkX_30 | exact lkX_32 | exact lkX_p1 | exact lkX_p3 | exact lkX_p5 | exact lkX_p7 | exact lkX_p9 | exact lkX_2 | exact lkX_109 | exact lkX_4 | exact lkX_d); rfl) rfl ?_
  refine j_iload_n (pc := 18) dX6_burdenOf_18 rfl ?_
  refine j_v1 (pc := 19) (ci := 3) dX6_burdenOf_19 mc_X3_at ml_X6_107 im_X3_at se_X3_at rfl rfl (by apply lkE; (with_reducible first | exact lkX_1 | exact lkX_27 | exact lkX_p | exact lkX_34 | exact lkX_35 | exact lkX_107 | exact lkX_125 | exact lkX_127 | exact lkX_28 | exact lkX_30 | exact lkX_32 | exact lkX_p1 | exact lkX_p3 | exact lkX_p5 | exact lkX_p7 | exact lkX_p9 | exact lkX_2 | exact lkX_109 | exact lkX_4 | exact lkX_d); rfl) (by omega) (c_at (n := 6) (by decide) (by apply lkE; (with_reducible first | exact lkX_p3 | exact lkX_28 | exact lkX_30 | exact lkX_32 | exact lkX_107 | exact lkX_125 | exact lkX_127); rfl) (by apply lkE; (with_reducible first | exact lkX_p4 | exact lkX_29 | exact lkX_31 | exact lkX_33 | exact lkX_108 | exact lkX_126 | exact lkX_128); rfl)) (Nat.le_of_ble_eq_true rfl) ?_
  refine j_iadd (pc := 22) dX6_burdenOf_22 ?_
  refine j_aload_n (pc := 23) dX6_burdenOf_23 rfl ?_
  refine j_getf (pc := 24) dX6_burdenOf_24 fl_X6_30 (by apply lkE; (with_reducible first | exact lkX_1 | exact lkX_27 | exact lkX_p | exact lkX_34 | exact lkX_35 | exact lkX_107 | exact lkX_125 | exact lkX_127 | exact lkX_28 | exact lkX_30 | exact lkX_32 | exact lkX_p1 | exact lkX_p3 | exact lkX_p5 | exact lkX_p7 | exact lkX_p9 | exact lkX_2 | exact lkX_109 | exact lkX_4 | exact lkX_d); rfl) rfl ?_
  refine j_getf (pc := 27) dX6_burdenOf_27 fl_X6_104 (by apply lkE; (with_reducible first | exact lkX_1 | exact lkX_27 | exact lkX_p | exact lkX_34 | exact lkX_35 | exact lkX_107 | exact lkX_125 | exact lkX_127 | exact lkX_28 | exact lkX_30 | exact lkX_32 | exact lkX_p1 | exact lkX_p3 | exact lkX_p5 | exact lkX_p7 | exact lkX_p9 | exact lkX_2 | exact lkX_109 | exact lkX_4 | exact lkX_d); rfl) rfl ?_
  refine j_aload_n (pc := 30) dX6_burdenOf_30 rfl ?_
  refine j_getf (pc := 31) dX6_burdenOf_31 fl_X6_40 (by apply lkE; (with_reducible first | exact lkX_1 | exact lkX_27 | exact lkX_p | exact lkX_34 | exact lkX_35 | exact lkX_107 | exact lkX_125 | exact lkX_127 | exact lkX_28 | exact lkX_30 | exact lkX_32 | exact lkX_p1 | exact lkX_p3 | exact lkX_p5 | exact lkX_p7 | exact lkX_p9 | exact lkX_2 | exact lkX_109 | exact lkX_4 | exact lkX_d); rfl) rfl ?_
  refine j_getf (pc := 34) dX6_burdenOf_34 fl_X6_123 (by apply lkE; (with_reducible first | exact lkX_1 | exact lkX_27 | exact lkX_p | exact lkX_34 | exact lkX_35 | exact lkX_107 | exact lkX_125 | exact lkX_127 | exact lkX_28 | exact lkX_30 | exact lkX_32 | exact lkX_p1 | exact lkX_p3 | exact lkX_p5 | exact lkX_p7 | exact lkX_p9 | exact lkX_2 | exact lkX_109 | exact lkX_4 | exact lkX_d); rfl) rfl ?_
  refine j_iload_n (pc := 37) dX6_burdenOf_37 rfl ?_
  refine j_v1 (pc := 38) (ci := 3) dX6_burdenOf_38 mc_X3_at ml_X6_107 im_X3_at se_X3_at rfl rfl (by apply lkE; (with_reducible first | exact lkX_1 | exact lkX_27 | exact lkX_p | exact lkX_34 | exact lkX_35 | exact lkX_107 | exact lkX_125 | exact lkX_127 | exact lkX_28 | exact lkX_30 | exact lkX_32 | exact lkX_p1 | exact lkX_p3 | exact lkX_p5 | exact lkX_p7 | exact lkX_p9 | exact lkX_2 | exact lkX_109 | exact lkX_4 | exact lkX_d); rfl) (by omega) (c_at (n := 6) (by decide) (by apply lkE; (with_reducible first | exact lkX_p3 | exact lkX_28 | exact lkX_30 | exact lkX_32 | exact lkX_107 | exact lkX_125 | exact lkX_127); rfl) (by apply lkE; (with_reducible first | exact lkX_p4 | exact lkX_29 | exact lkX_31 | exact lkX_33 | exact lkX_108 | exact lkX_126 | exact lkX_128); rfl)) (Nat.le_of_ble_eq_true rfl) ?_
  refine j_v1 (pc := 41) (ci := 3) dX6_burdenOf_41 mc_X3_sumOf ml_X6_126 im_X3_sumOf se_X3_sumOf rfl rfl (by apply lkE; (with_reducible first | exact lkX_1 | exact lkX_27 | exact lkX_p | exact lkX_34 | exact lkX_35 | exact lkX_107 | exact lkX_125 | exact lkX_127 | exact lkX_28 | exact lkX_30 | exact lkX_32 | exact lkX_p1 | exact lkX_p3 | exact lkX_p5 | exact lkX_p7 | exact lkX_p9 | exact lkX_2 | exact lkX_109 | exact lkX_4 | exact lkX_d); rfl) (by omega) (c_sumOf (by apply lkE; (with_reducible first | exact lkX_p1 | exact lkX_p9); rfl) (by apply lkE; (with_reducible first | exact lkX_p2 | exact lkX_p10); rfl)) (Nat.le_of_ble_eq_true rfl) ?_
  refine j_iadd (pc := 44) dX6_burdenOf_44 ?_
  refine j_ireturn (pc := 45) dX6_burdenOf_45 rfl ?_
  exact ⟨rfl, rfl⟩

set_option maxRecDepth 20000 in
set_option maxHeartbeats 1000000 in
theorem x_loadOf {l : Int32} : CD g 3 mX6_loadOf [.ref 1, .int l] (W1 scr tl lt lc rd sw P D S kk nx ring bu im kept tb tr tc ts) (some (.int (ldI P S l))) (W1 scr tl lt lc rd sw P D S kk nx ring bu im kept tb tr tc ts) := by
  refine C.of (by decide +kernel) (by simp [Value.category]) (Nat.le_of_ble_eq_true rfl) ?_
  change J g mX6_loadOf 3 0 0 _ (W1 scr tl lt lc rd sw P D S kk nx ring bu im kept tb tr tc ts) 0 [some (.ref 1), some (.int l)] []
  refine j_aload_n (pc := 0) dX6_loadOf_0 rfl ?_
  refine j_iload_n (pc := 1) dX6_loadOf_1 rfl ?_
  refine j_v1 (pc := 2) (ci := 6) dX6_loadOf_2 mc_X6_burdenOf ml_X6_192 im_X6_burdenOf se_X6_burdenOf rfl rfl (by apply lkE; (with_reducible first | exact lkX_1 | exact lkX_27 | exact lkX_p | exact lkX_34 | exact lkX_35 | exact lkX_107 | exact lkX_125 | exact lkX_127 | exact lkX_28 | exact lkX_30 | exact lkX_32 | exact lkX_p1 | exact lkX_p3 | exact lkX_p5 | exact lkX_p7 | exact lkX_p9 | exact lkX_2 | exact lkX_109 | exact lkX_4 | exact lkX_d); rfl) (by omega) (x_burdenOf) (Nat.le_of_ble_eq_true rfl) ?_
  refine j_aload_n (pc := 5) dX6_loadOf_5 rfl ?_
  refine j_getf (pc := 6) dX6_loadOf_6 fl_X6_40 (by apply lkE; (with_reducible first | exact lkX_1 | exact lkX_27 | exact lkX_p | exact lkX_34 | exact lkX_35 | exact lkX_107 | exact lkX_125 | exact lkX_127 | exact lkX_28 | exact lkX_30 | exact lkX_32 | exact lkX_p1 | exact lkX_p3 | exact lkX_p5 | exact lkX_p7 | exact lkX_p9 | exact lkX_2 | exact lkX_109 | exact lkX_4 | exact lkX_d); rfl) rfl ?_
  refine j_getf (pc := 9) dX6_loadOf_9 fl_X6_150 (by apply lkE; (with_reducible first | exact lkX_1 | exact lkX_27 | exact lkX_p | exact lkX_34 | exact lkX_35 | exact lkX_107 | exact lkX_125 | exact lkX_127 | exact lkX_28 | exact lkX_30 | exact lkX_32 | exact lkX_p1 | exact lkX_p3 | exact lkX_p5 | exact lkX_p7 | exact lkX_p9 | exact lkX_2 | exact lkX_109 | exact lkX_4 | exact lkX_d); rfl) rfl ?_
  refine j_s2 (pc := 12) dX6_loadOf_12 mc_X6_loadBy ml_X6_281 sm_X6_loadBy (by omega) (c_loadBy) (Nat.le_of_ble_eq_true rfl) ?_
  refine j_ireturn (pc := 15) dX6_loadOf_15 rfl ?_
  exact ⟨rfl, rfl⟩

set_option maxRecDepth 20000 in
set_option maxHeartbeats 1000000 in
theorem x_readingOf {l : Int32} : CD g 4 mX6_readingOf [.ref 1, .int l] (W1 scr tl lt lc rd sw P D S kk nx ring bu im kept tb tr tc ts) (some (.int (rdI P S l))) (W1 scr tl lt lc rd sw P D S kk nx ring bu im kept tb tr tc ts) := by
  refine C.of (by decide +kernel) (by simp [Value.category]) (Nat.le_of_ble_eq_true rfl) ?_
  change J g mX6_readingOf 4 0 0 _ (W1 scr tl lt lc rd sw P D S kk nx ring bu im kept tb tr tc ts) 0 [some (.ref 1), some (.int l)] []
  refine j_aload_n (pc := 0) dX6_readingOf_0 rfl ?_
  refine j_aload_n (pc := 1) dX6_readingOf_1 rfl ?_
  refine j_getf (pc := 2) dX6_readingOf_2 fl_X6_40 (by apply lkE; (with_reducible first | exact lkX_1 | exact lkX_27 | exact lkX_p | exact lkX_34 | exact lkX_35 | exact lkX_107 | exact lkX_125 | exact lkX_127 | exact lkX_28 | exact lkX_30 | exact lkX_32 | exact lkX_p1 | exact lkX_p3 | exact lkX_p5 | exact lkX_p7 | exact lkX_p9 | exact lkX_2 | exact lkX_109 | exact lkX_4 | exact lkX_d); rfl) rfl ?_
  refine j_getf (pc := 5) dX6_readingOf_5 fl_X6_147 (by apply lkE; (with_reducible first | exact lkX_1 | exact lkX_27 | exact lkX_p | exact lkX_34 | exact lkX_35 | exact lkX_107 | exact lkX_125 | exact lkX_127 | exact lkX_28 | exact lkX_30 | exact lkX_32 | exact lkX_p1 | exact lkX_p3 | exact lkX_p5 | exact lkX_p7 | exact lkX_p9 | exact lkX_2 | exact lkX_109 | exact lkX_4 | exact lkX_d); rfl) rfl ?_
  refine j_aload_n (pc := 8) dX6_readingOf_8 rfl ?_
  refine j_iload_n (pc := 9) dX6_readingOf_9 rfl ?_
  refine j_v1 (pc := 10) (ci := 6) dX6_readingOf_10 mc_X6_loadOf ml_X6_129 im_X6_loadOf se_X6_loadOf rfl rfl (by apply lkE; (with_reducible first | exact lkX_1 | exact lkX_27 | exact lkX_p | exact lkX_34 | exact lkX_35 | exact lkX_107 | exact lkX_125 | exact lkX_127 | exact lkX_28 | exact lkX_30 | exact lkX_32 | exact lkX_p1 | exact lkX_p3 | exact lkX_p5 | exact lkX_p7 | exact lkX_p9 | exact lkX_2 | exact lkX_109 | exact lkX_4 | exact lkX_d); rfl) (by omega) (x_loadOf) (Nat.le_of_ble_eq_true rfl) ?_
  refine j_v2 (pc := 13) (ci := 6) dX6_readingOf_13 mc_X6_needleBy ml_X6_170 im_X6_needleBy se_X6_needleBy rfl rfl (by apply lkE; (with_reducible first | exact lkX_1 | exact lkX_27 | exact lkX_p | exact lkX_34 | exact lkX_35 | exact lkX_107 | exact lkX_125 | exact lkX_127 | exact lkX_28 | exact lkX_30 | exact lkX_32 | exact lkX_p1 | exact lkX_p3 | exact lkX_p5 | exact lkX_p7 | exact lkX_p9 | exact lkX_2 | exact lkX_109 | exact lkX_4 | exact lkX_d); rfl) (by omega) (x_needleBy) (Nat.le_of_ble_eq_true rfl) ?_
  refine j_ireturn (pc := 16) dX6_readingOf_16 rfl ?_
  exact ⟨rfl, rfl⟩

set_option maxRecDepth 20000 in
set_option maxHeartbeats 1000000 in
theorem x_errorOf {l : Int32} : CD g 3 mX6_errorOf [.ref 1, .int l] (W1 scr tl lt lc rd sw P D S kk nx ring bu im kept tb tr tc ts) (some (.int (erI P S l))) (W1 scr tl lt lc rd sw P D S kk nx ring bu im kept tb tr tc ts) := by
  refine C.of (by decide +kernel) (by simp [Value.category]) (Nat.le_of_ble_eq_true rfl) ?_
  change J g mX6_errorOf 3 0 0 _ (W1 scr tl lt lc rd sw P D S kk nx ring bu im kept tb tr tc ts) 0 [some (.ref 1), some (.int l)] []
  refine j_aload_n (pc := 0) dX6_errorOf_0 rfl ?_
  refine j_getf (pc := 1) dX6_errorOf_1 fl_X6_40 (by apply lkE; (with_reducible first | exact lkX_1 | exact lkX_27 | exact lkX_p | exact lkX_34 | exact lkX_35 | exact lkX_107 | exact lkX_125 | exact lkX_127 | exact lkX_28 | exact lkX_30 | exact lkX_32 | exact lkX_p1 | exact lkX_p3 | exact lkX_p5 | exact lkX_p7 | exact lkX_p9 | exact lkX_2 | exact lkX_109 | exact lkX_4 | exact lkX_d); rfl) rfl ?_
  refine j_iload_n (pc := 4) dX6_errorOf_4 rfl ?_
  refine j_v1 (pc := 5) (ci := 4) dX6_errorOf_5 mc_X4_isChalked ml_X6_163 im_X4_isChalked se_X4_isChalked rfl rfl (by apply lkE; (with_reducible first | exact lkX_1 | exact lkX_27 | exact lkX_p | exact lkX_34 | exact lkX_35 | exact lkX_107 | exact lkX_125 | exact lkX_127 | exact lkX_28 | exact lkX_30 | exact lkX_32 | exact lkX_p1 | exact lkX_p3 | exact lkX_p5 | exact lkX_p7 | exact lkX_p9 | exact lkX_2 | exact lkX_109 | exact lkX_4 | exact lkX_d); rfl) (by omega) (c_isChalked ⟨lkX_27, lkX_28, lkX_29, lkX_30, lkX_31, lkX_32, lkX_33⟩) (Nat.le_of_ble_eq_true rfl) ?_
  refine j_beq (pc := 8) (tgt := 31) dX6_errorOf_8 rfl (fun zc8 => ?_) (fun zc8 => ?_)
  · refine j_ldc (pc := 31) dX6_errorOf_31 ck_X6_103 ?_
    refine j_ireturn (pc := 33) dX6_errorOf_33 rfl ?_
    exact ⟨by simp [erI, *], rfl⟩
  · refine j_aload_n (pc := 11) dX6_errorOf_11 rfl ?_
    refine j_getf (pc := 12) dX6_errorOf_12 fl_X6_40 (by apply lkE; (with_reducible first | exact lkX_1 | exact lkX_27 | exact lkX_p | exact lkX_34 | exact lkX_35 | exact lkX_107 | exact lkX_125 | exact lkX_127 | exact lkX_28 | exact lkX_30 | exact lkX_32 | exact lkX_p1 | exact lkX_p3 | exact lkX_p5 | exact lkX_p7 | exact lkX_p9 | exact lkX_2 | exact lkX_109 | exact lkX_4 | exact lkX_d); rfl) rfl ?_
    refine j_getf (pc := 15) dX6_errorOf_15 fl_X6_132 (by apply lkE; (with_reducible first | exact lkX_1 | exact lkX_27 | exact lkX_p | exact lkX_34 | exact lkX_35 | exact lkX_107 | exact lkX_125 | exact lkX_127 | exact lkX_28 | exact lkX_30 | exact lkX_32 | exact lkX_p1 | exact lkX_p3 | exact lkX_p5 | exact lkX_p7 | exact lkX_p9 | exact lkX_2 | exact lkX_109 | exact lkX_4 | exact lkX_d); rfl) rfl ?_
    refine j_iload_n (pc := 18) dX6_errorOf_18 rfl ?_
    refine j_v1 (pc := 19) (ci := 3) dX6_errorOf_19 mc_X3_at ml_X6_107 im_X3_at se_X3_at rfl rfl (by apply lkE; (with_reducible first | exact lkX_1 | exact lkX_27 | exact lkX_p | exact lkX_34 | exact lkX_35 | exact lkX_107 | exact lkX_125 | exact lkX_127 | exact lkX_28 | exact lkX_30 | exact lkX_32 | exact lkX_p1 | exact lkX_p3 | exact lkX_p5 | exact lkX_p7 | exact lkX_p9 | exact lkX_2 | exact lkX_109 | exact lkX_4 | exact lkX_d); rfl) (by omega) (c_at (n := 6) (by decide) (by apply lkE; (with_reducible first | exact lkX_p3 | exact lkX_28 | exact lkX_30 | exact lkX_32 | exact lkX_107 | exact lkX_125 | exact lkX_127); rfl) (by apply lkE; (with_reducible first | exact lkX_p4 | exact lkX_29 | exact lkX_31 | exact lkX_33 | exact lkX_108 | exact lkX_126 | exact lkX_128); rfl)) (Nat.le_of_ble_eq_true rfl) ?_
    refine j_aload_n (pc := 22) dX6_errorOf_22 rfl ?_
    refine j_iload_n (pc := 23) dX6_errorOf_23 rfl ?_
    refine j_v1 (pc := 24) (ci := 6) dX6_errorOf_24 mc_X6_burdenOf ml_X6_192 im_X6_burdenOf se_X6_burdenOf rfl rfl (by apply lkE; (with_reducible first | exact lkX_1 | exact lkX_27 | exact lkX_p | exact lkX_34 | exact lkX_35 | exact lkX_107 | exact lkX_125 | exact lkX_127 | exact lkX_28 | exact lkX_30 | exact lkX_32 | exact lkX_p1 | exact lkX_p3 | exact lkX_p5 | exact lkX_p7 | exact lkX_p9 | exact lkX_2 | exact lkX_109 | exact lkX_4 | exact lkX_d); rfl) (by omega) (x_burdenOf) (Nat.le_of_ble_eq_true rfl) ?_
    refine j_isub (pc := 27) dX6_errorOf_27 ?_
    refine j_goto (pc := 28) (tgt := 33) dX6_errorOf_28 rfl ?_
    refine j_ireturn (pc := 33) dX6_errorOf_33 rfl ?_
    exact ⟨by simp [erI, *], rfl⟩

set_option maxRecDepth 20000 in
set_option maxHeartbeats 1000000 in
theorem xl_whoIsChalked {n : Nat} (hdd : P.2.2.1 = nI n) (hn : n ≤ 6) : ∀ (m k : Nat) (a : Int32), k + m = n → Q (some (.int (iter (chStep S) m k a))) (W1 scr tl lt lc rd sw P D S kk nx ring bu im kept tb tr tc ts) → J g mX6_whoIsChalked 3 0 0 Q (W1 scr tl lt lc rd sw P D S kk nx ring bu im kept tb tr tc ts) 4 [some (.ref 1), some (.int a), some (.int (nI k))] [] := by
  intro m
  induction m with
  | zero =>
    intro k a hk hq
    refine j_iload_n (pc := 4) dX6_whoIsChalked_4 rfl ?_
    refine j_aload_n (pc := 5) dX6_whoIsChalked_5 rfl ?_
    refine j_getf (pc := 6) dX6_whoIsChalked_6 fl_X6_30 (by apply lkE; (with_reducible first | exact lkX_1 | exact lkX_27 | exact lkX_p | exact lkX_34 | exact lkX_35 | exact lkX_107 | exact lkX_125 | exact lkX_127 | exact lkX_28 | exact lkX_30 | exact lkX_32 | exact lkX_p1 | exact lkX_p3 | exact lkX_p5 | exact lkX_p7 | exact lkX_p9 | exact lkX_2 | exact lkX_109 | exact lkX_4 | exact lkX_d); rfl) rfl ?_
    refine j_getf (pc := 9) dX6_whoIsChalked_9 fl_X6_189 (by apply lkE; (with_reducible first | exact lkX_1 | exact lkX_27 | exact lkX_p | exact lkX_34 | exact lkX_35 | exact lkX_107 | exact lkX_125 | exact lkX_127 | exact lkX_28 | exact lkX_30 | exact lkX_32 | exact lkX_p1 | exact lkX_p3 | exact lkX_p5 | exact lkX_p7 | exact lkX_p9 | exact lkX_2 | exact lkX_109 | exact lkX_4 | exact lkX_d); rfl) rfl ?_
    refine j_icmp_ge (pc := 12) (tgt := 39) dX6_whoIsChalked_12 rfl (fun _ => ?_) (fun zc12 => absurd (by rw [hdd]; exact nI_le (by omega) (by omega)) zc12)
    refine j_iload_n (pc := 39) dX6_whoIsChalked_39 rfl ?_
    refine j_ireturn (pc := 40) dX6_whoIsChalked_40 rfl ?_
    exact hq
  | succ m ih =>
    intro k a hk hq
    refine j_iload_n (pc := 4) dX6_whoIsChalked_4 rfl ?_
    refine j_aload_n (pc := 5) dX6_whoIsChalked_5 rfl ?_
    refine j_getf (pc := 6) dX6_whoIsChalked_6 fl_X6_30 (by apply lkE; (with_reducible first | exact lkX_1 | exact lkX_27 | exact lkX_p | exact lkX_34 | exact lkX_35 | exact lkX_107 | exact lkX_125 | exact lkX_127 | exact lkX_28 | exact lkX_30 | exact lkX_32 | exact lkX_p1 | exact lkX_p3 | exact lkX_p5 | exact lkX_p7 | exact lkX_p9 | exact lkX_2 | exact lkX_109 | exact lkX_4 | exact lkX_d); rfl) rfl ?_
    refine j_getf (pc := 9) dX6_whoIsChalked_9 fl_X6_189 (by apply lkE; (with_reducible first | exact lkX_1 | exact lkX_27 | exact lkX_p | exact lkX_34 | exact lkX_35 | exact lkX_107 | exact lkX_125 | exact lkX_127 | exact lkX_28 | exact lkX_30 | exact lkX_32 | exact lkX_p1 | exact lkX_p3 | exact lkX_p5 | exact lkX_p7 | exact lkX_p9 | exact lkX_2 | exact lkX_109 | exact lkX_4 | exact lkX_d); rfl) rfl ?_
    refine j_icmp_ge (pc := 12) (tgt := 39) dX6_whoIsChalked_12 rfl (fun zc12 => absurd zc12 (by rw [hdd]; exact nI_ge (by omega) (by omega))) (fun _ => ?_)
    refine j_aload_n (pc := 15) dX6_whoIsChalked_15 rfl ?_
    refine j_getf (pc := 16) dX6_whoIsChalked_16 fl_X6_40 (by apply lkE; (with_reducible first | exact lkX_1 | exact lkX_27 | exact lkX_p | exact lkX_34 | exact lkX_35 | exact lkX_107 | exact lkX_125 | exact lkX_127 | exact lkX_28 | exact lkX_30 | exact lkX_32 | exact lkX_p1 | exact lkX_p3 | exact lkX_p5 | exact lkX_p7 | exact lkX_p9 | exact lkX_2 | exact lkX_109 | exact lkX_4 | exact lkX_d); rfl) rfl ?_
    refine j_iload_n (pc := 19) dX6_whoIsChalked_19 rfl ?_
    refine j_v1 (pc := 20) (ci := 4) dX6_whoIsChalked_20 mc_X4_isChalked ml_X6_163 im_X4_isChalked se_X4_isChalked rfl rfl (by apply lkE; (with_reducible first | exact lkX_1 | exact lkX_27 | exact lkX_p | exact lkX_34 | exact lkX_35 | exact lkX_107 | exact lkX_125 | exact lkX_127 | exact lkX_28 | exact lkX_30 | exact lkX_32 | exact lkX_p1 | exact lkX_p3 | exact lkX_p5 | exact lkX_p7 | exact lkX_p9 | exact lkX_2 | exact lkX_109 | exact lkX_4 | exact lkX_d); rfl) (by omega) (c_isChalked ⟨lkX_27, lkX_28, lkX_29, lkX_30, lkX_31, lkX_32, lkX_33⟩) (Nat.le_of_ble_eq_true rfl) ?_
    refine j_beq (pc := 23) (tgt := 33) dX6_whoIsChalked_23 rfl (fun zc23 => ?_) (fun zc23 => ?_)
    · refine j_iinc (pc := 33) dX6_whoIsChalked_33 rfl rfl (Nat.le_of_ble_eq_true rfl) rfl ?_
      refine j_goto (pc := 36) (tgt := 4) dX6_whoIsChalked_36 rfl ?_
      rw [nI_s]
      refine ih (k + 1) _ (by omega) ?_
      simpa [iter, chStep, *] using hq
    · refine j_iload_n (pc := 26) dX6_whoIsChalked_26 rfl ?_
      refine j_iload_n (pc := 27) dX6_whoIsChalked_27 rfl ?_
      refine j_s1 (pc := 28) dX6_whoIsChalked_28 mc_X6_bit ml_X6_178 sm_X6_bit (by omega) (c_bit) (Nat.le_of_ble_eq_true rfl) ?_
      refine j_ior (pc := 31) dX6_whoIsChalked_31 ?_
      refine j_istore_n (pc := 32) dX6_whoIsChalked_32 rfl (Nat.le_of_ble_eq_true rfl) rfl ?_
      refine j_iinc (pc := 33) dX6_whoIsChalked_33 rfl rfl (Nat.le_of_ble_eq_true rfl) rfl ?_
      refine j_goto (pc := 36) (tgt := 4) dX6_whoIsChalked_36 rfl ?_
      rw [nI_s]
      refine ih (k + 1) _ (by omega) ?_
      simpa [iter, chStep, *] using hq

set_option maxRecDepth 20000 in
set_option maxHeartbeats 1000000 in
theorem x_whoIsChalked {n : Nat} (hdd : P.2.2.1 = nI n) (hn : n ≤ 6) : CD g 3 mX6_whoIsChalked [.ref 1] (W1 scr tl lt lc rd sw P D S kk nx ring bu im kept tb tr tc ts) (some (.int (iter (chStep S) n 0 0))) (W1 scr tl lt lc rd sw P D S kk nx ring bu im kept tb tr tc ts) := by
  refine C.of (by decide +kernel) (by simp [Value.category]) (Nat.le_of_ble_eq_true rfl) ?_
  change J g mX6_whoIsChalked 3 0 0 _ (W1 scr tl lt lc rd sw P D S kk nx ring bu im kept tb tr tc ts) 0 [some (.ref 1), none, none] []
  refine j_iconst (pc := 0) dX6_whoIsChalked_0 kc_0 ?_
  refine j_istore_n (pc := 1) dX6_whoIsChalked_1 rfl (Nat.le_of_ble_eq_true rfl) rfl ?_
  refine j_iconst (pc := 2) dX6_whoIsChalked_2 kc_0 ?_
  refine j_istore_n (pc := 3) dX6_whoIsChalked_3 rfl (Nat.le_of_ble_eq_true rfl) rfl ?_
  exact xl_whoIsChalked hdd hn n 0 0 (by omega) ⟨rfl, rfl⟩

set_option maxRecDepth 20000 in
set_option maxHeartbeats 1000000 in
theorem xl_whoDid {d : Int32} {n : Nat} (hdd : P.2.2.1 = nI n) (hn : n ≤ 6) : ∀ (m k : Nat) (a : Int32), k + m = n → Q (some (.int (iter (wdStep S d) m k a))) (W1 scr tl lt lc rd sw P D S kk nx ring bu im kept tb tr tc ts) → J g mX6_whoDid 3 0 0 Q (W1 scr tl lt lc rd sw P D S kk nx ring bu im kept tb tr tc ts) 4 [some (.ref 1), some (.int d), some (.int a), some (.int (nI k))] [] := by
  intro m
  induction m with
  | zero =>
    intro k a hk hq
    refine j_iload_n (pc := 4) dX6_whoDid_4 rfl ?_
    refine j_aload_n (pc := 5) dX6_whoDid_5 rfl ?_
    refine j_getf (pc := 6) dX6_whoDid_6 fl_X6_30 (by apply lkE; (with_reducible first | exact lkX_1 | exact lkX_27 | exact lkX_p | exact lkX_34 | exact lkX_35 | exact lkX_107 | exact lkX_125 | exact lkX_127 | exact lkX_28 | exact lkX_30 | exact lkX_32 | exact lkX_p1 | exact lkX_p3 | exact lkX_p5 | exact lkX_p7 | exact lkX_p9 | exact lkX_2 | exact lkX_109 | exact lkX_4 | exact lkX_d); rfl) rfl ?_
    refine j_getf (pc := 9) dX6_whoDid_9 fl_X6_189 (by apply lkE; (with_reducible first | exact lkX_1 | exact lkX_27 | exact lkX_p | exact lkX_34 | exact lkX_35 | exact lkX_107 | exact lkX_125 | exact lkX_127 | exact lkX_28 | exact lkX_30 | exact lkX_32 | exact lkX_p1 | exact lkX_p3 | exact lkX_p5 | exact lkX_p7 | exact lkX_p9 | exact lkX_2 | exact lkX_109 | exact lkX_4 | exact lkX_d); rfl) rfl ?_
    refine j_icmp_ge (pc := 12) (tgt := 46) dX6_whoDid_12 rfl (fun _ => ?_) (fun zc12 => absurd (by rw [hdd]; exact nI_le (by omega) (by omega)) zc12)
    refine j_iload_n (pc := 46) dX6_whoDid_46 rfl ?_
    refine j_ireturn (pc := 47) dX6_whoDid_47 rfl ?_
    exact hq
  | succ m ih =>
    intro k a hk hq
    refine j_iload_n (pc := 4) dX6_whoDid_4 rfl ?_
    refine j_aload_n (pc := 5) dX6_whoDid_5 rfl ?_
    refine j_getf (pc := 6) dX6_whoDid_6 fl_X6_30 (by apply lkE; (with_reducible first | exact lkX_1 | exact lkX_27 | exact lkX_p | exact lkX_34 | exact lkX_35 | exact lkX_107 | exact lkX_125 | exact lkX_127 | exact lkX_28 | exact lkX_30 | exact lkX_32 | exact lkX_p1 | exact lkX_p3 | exact lkX_p5 | exact lkX_p7 | exact lkX_p9 | exact lkX_2 | exact lkX_109 | exact lkX_4 | exact lkX_d); rfl) rfl ?_
    refine j_getf (pc := 9) dX6_whoDid_9 fl_X6_189 (by apply lkE; (with_reducible first | exact lkX_1 | exact lkX_27 | exact lkX_p | exact lkX_34 | exact lkX_35 | exact lkX_107 | exact lkX_125 | exact lkX_127 | exact lkX_28 | exact lkX_30 | exact lkX_32 | exact lkX_p1 | exact lkX_p3 | exact lkX_p5 | exact lkX_p7 | exact lkX_p9 | exact lkX_2 | exact lkX_109 | exact lkX_4 | exact lkX_d); rfl) rfl ?_
    refine j_icmp_ge (pc := 12) (tgt := 46) dX6_whoDid_12 rfl (fun zc12 => absurd zc12 (by rw [hdd]; exact nI_ge (by omega) (by omega))) (fun _ => ?_)
    refine j_aload_n (pc := 15) dX6_whoDid_15 rfl ?_
    refine j_getf (pc := 16) dX6_whoDid_16 fl_X6_40 (by apply lkE; (with_reducible first | exact lkX_1 | exact lkX_27 | exact lkX_p | exact lkX_34 | exact lkX_35 | exact lkX_107 | exact lkX_125 | exact lkX_127 | exact lkX_28 | exact lkX_30 | exact lkX_32 | exact lkX_p1 | exact lkX_p3 | exact lkX_p5 | exact lkX_p7 | exact lkX_p9 | exact lkX_2 | exact lkX_109 | exact lkX_4 | exact lkX_d); rfl) rfl ?_
    refine j_getf (pc := 19) dX6_whoDid_19 fl_X6_123 (by apply lkE; (with_reducible first | exact lkX_1 | exact lkX_27 | exact lkX_p | exact lkX_34 | exact lkX_35 | exact lkX_107 | exact lkX_125 | exact lkX_127 | exact lkX_28 | exact lkX_30 | exact lkX_32 | exact lkX_p1 | exact lkX_p3 | exact lkX_p5 | exact lkX_p7 | exact lkX_p9 | exact lkX_2 | exact lkX_109 | exact lkX_4 | exact lkX_d); rfl) rfl ?_
    refine j_iload_n (pc := 22) dX6_whoDid_22 rfl ?_
    refine j_v1 (pc := 23) (ci := 3) dX6_whoDid_23 mc_X3_at ml_X6_107 im_X3_at se_X3_at rfl rfl (by apply lkE; (with_reducible first | exact lkX_1 | exact lkX_27 | exact lkX_p | exact lkX_34 | exact lkX_35 | exact lkX_107 | exact lkX_125 | exact lkX_127 | exact lkX_28 | exact lkX_30 | exact lkX_32 | exact lkX_p1 | exact lkX_p3 | exact lkX_p5 | exact lkX_p7 | exact lkX_p9 | exact lkX_2 | exact lkX_109 | exact lkX_4 | exact lkX_d); rfl) (by omega) (c_at (n := 6) (by decide) (by apply lkE; (with_reducible first | exact lkX_p3 | exact lkX_28 | exact lkX_30 | exact lkX_32 | exact lkX_107 | exact lkX_125 | exact lkX_127); rfl) (by apply lkE; (with_reducible first | exact lkX_p4 | exact lkX_29 | exact lkX_31 | exact lkX_33 | exact lkX_108 | exact lkX_126 | exact lkX_128); rfl)) (Nat.le_of_ble_eq_true rfl) ?_
    refine j_iload_n (pc := 26) dX6_whoDid_26 rfl ?_
    refine j_s2 (pc := 27) dX6_whoDid_27 mc_X6_isIn ml_X6_174 sm_X6_isIn (by omega) (c_isIn) (Nat.le_of_ble_eq_true rfl) ?_
    refine j_beq (pc := 30) (tgt := 40) dX6_whoDid_30 rfl (fun zc30 => ?_) (fun zc30 => ?_)
    · refine j_iinc (pc := 40) dX6_whoDid_40 rfl rfl (Nat.le_of_ble_eq_true rfl) rfl ?_
      refine j_goto (pc := 43) (tgt := 4) dX6_whoDid_43 rfl ?_
      rw [nI_s]
      refine ih (k + 1) _ (by omega) ?_
      simpa [iter, wdStep, *] using hq
    · refine j_iload_n (pc := 33) dX6_whoDid_33 rfl ?_
      refine j_iload_n (pc := 34) dX6_whoDid_34 rfl ?_
      refine j_s1 (pc := 35) dX6_whoDid_35 mc_X6_bit ml_X6_178 sm_X6_bit (by omega) (c_bit) (Nat.le_of_ble_eq_true rfl) ?_
      refine j_ior (pc := 38) dX6_whoDid_38 ?_
      refine j_istore_n (pc := 39) dX6_whoDid_39 rfl (Nat.le_of_ble_eq_true rfl) rfl ?_
      refine j_iinc (pc := 40) dX6_whoDid_40 rfl rfl (Nat.le_of_ble_eq_true rfl) rfl ?_
      refine j_goto (pc := 43) (tgt := 4) dX6_whoDid_43 rfl ?_
      rw [nI_s]
      refine ih (k + 1) _ (by omega) ?_
      simpa [iter, wdStep, *] using hq

set_option maxRecDepth 20000 in
set_option maxHeartbeats 1000000 in
theorem x_whoDid {d : Int32} {n : Nat} (hdd : P.2.2.1 = nI n) (hn : n ≤ 6) : CD g 3 mX6_whoDid [.ref 1, .int d] (W1 scr tl lt lc rd sw P D S kk nx ring bu im kept tb tr tc ts) (some (.int (iter (wdStep S d) n 0 0))) (W1 scr tl lt lc rd sw P D S kk nx ring bu im kept tb tr tc ts) := by
  refine C.of (by decide +kernel) (by simp [Value.category]) (Nat.le_of_ble_eq_true rfl) ?_
  change J g mX6_whoDid 3 0 0 _ (W1 scr tl lt lc rd sw P D S kk nx ring bu im kept tb tr tc ts) 0 [some (.ref 1), some (.int d), none, none] []
  refine j_iconst (pc := 0) dX6_whoDid_0 kc_0 ?_
  refine j_istore_n (pc := 1) dX6_whoDid_1 rfl (Nat.le_of_ble_eq_true rfl) rfl ?_
  refine j_iconst (pc := 2) dX6_whoDid_2 kc_0 ?_
  refine j_istore_n (pc := 3) dX6_whoDid_3 rfl (Nat.le_of_ble_eq_true rfl) rfl ?_
  exact xl_whoDid hdd hn n 0 0 (by omega) ⟨rfl, rfl⟩

def exL (P : ParV) (S : ScV) (tb tr : Fn) (soul : Int32) : Nat → Nat → Bool
  | 0, _ => true
  | m + 1, k => if nbS P S 0 (imax 0 (tb k + soul)) = tr k then exL P S tb tr soul m (k + 1) else false
def exA (P : ParV) (S : ScV) (tb tr : Fn) (nt : Nat) (s : Int32) : Bool := exL P S tb tr (sumI P.2.2.2.2.2.2.1 s 6 0 0) nt 0
def swStep (P : ParV) (S : ScV) (tb tr : Fn) (nt : Nat) (w : Int32) (k : Nat) (a : Int32) : Int32 := if nI k &&& w = w then (if exA P S tb tr nt (nI k) then a + 1 else a) else a
def swI (P : ParV) (S : ScV) (tb tr : Fn) (nt ne : Nat) (w : Int32) : Int32 := iter (swStep P S tb tr nt w) (2 ^ ne) 0 0
theorem allI_nI {n : Nat} (h : n ≤ 6) : allI (nI n) = nI (2 ^ n - 1) := by
  have : n = 0 ∨ n = 1 ∨ n = 2 ∨ n = 3 ∨ n = 4 ∨ n = 5 ∨ n = 6 := by omega
  rcases this with rfl | rfl | rfl | rfl | rfl | rfl | rfl <;> decide
theorem two_le {n : Nat} (h : n ≤ 6) : 1 ≤ 2 ^ n ∧ 2 ^ n ≤ 64 := by
  have : n = 0 ∨ n = 1 ∨ n = 2 ∨ n = 3 ∨ n = 4 ∨ n = 5 ∨ n = 6 := by omega
  rcases this with rfl | rfl | rfl | rfl | rfl | rfl | rfl <;> decide
set_option maxRecDepth 20000 in
set_option maxHeartbeats 1000000 in
theorem xl_explainsAll {s soul : Int32} {nt : Nat} (htc : tc = nI nt) (hnt : nt ≤ 6) : ∀ (m k : Nat), k + m = nt → Q (some (.int (b2i (exL P S tb tr soul m k)))) (W1 scr tl lt lc rd sw P D S kk nx ring bu im kept tb tr tc ts) → J g mX6_explainsAll 2 0 0 Q (W1 scr tl lt lc rd sw P D S kk nx ring bu im kept tb tr tc ts) 14 [some (.ref 1), some (.int s), some (.int soul), some (.int (nI k))] [] := by
  intro m
  induction m with
  | zero =>
    intro k hk hq
    refine j_iload_n (pc := 14) dX6_explainsAll_14 rfl ?_
    refine j_aload_n (pc := 15) dX6_explainsAll_15 rfl ?_
    refine j_getf (pc := 16) dX6_explainsAll_16 fl_X6_93 (by apply lkE; (with_reducible first | exact lkX_1 | exact lkX_27 | exact lkX_p | exact lkX_34 | exact lkX_35 | exact lkX_107 | exact lkX_125 | exact lkX_127 | exact lkX_28 | exact lkX_30 | exact lkX_32 | exact lkX_p1 | exact lkX_p3 | exact lkX_p5 | exact lkX_p7 | exact lkX_p9 | exact lkX_2 | exact lkX_109 | exact lkX_4 | exact lkX_d); rfl) rfl ?_
    refine j_icmp_ge (pc := 19) (tgt := 58) dX6_explainsAll_19 rfl (fun _ => ?_) (fun zc19 => absurd (by rw [htc]; exact nI_le (by omega) (by omega)) zc19)
    refine j_iconst (pc := 58) dX6_explainsAll_58 kc_1 ?_
    refine j_zret (pc := 59) (b := true) dX6_explainsAll_59 rfl rfl ?_
    exact hq
  | succ m ih =>
    intro k hk hq
    refine j_iload_n (pc := 14) dX6_explainsAll_14 rfl ?_
    refine j_aload_n (pc := 15) dX6_explainsAll_15 rfl ?_
    refine j_getf (pc := 16) dX6_explainsAll_16 fl_X6_93 (by apply lkE; (with_reducible first | exact lkX_1 | exact lkX_27 | exact lkX_p | exact lkX_34 | exact lkX_35 | exact lkX_107 | exact lkX_125 | exact lkX_127 | exact lkX_28 | exact lkX_30 | exact lkX_32 | exact lkX_p1 | exact lkX_p3 | exact lkX_p5 | exact lkX_p7 | exact lkX_p9 | exact lkX_2 | exact lkX_109 | exact lkX_4 | exact lkX_d); rfl) rfl ?_
    refine j_icmp_ge (pc := 19) (tgt := 58) dX6_explainsAll_19 rfl (fun zc19 => absurd zc19 (by rw [htc]; exact nI_ge (by omega) (by omega))) (fun _ => ?_)
    refine j_aload_n (pc := 22) dX6_explainsAll_22 rfl ?_
    refine j_iconst (pc := 23) dX6_explainsAll_23 kc_0 ?_
    refine j_aload_n (pc := 24) dX6_explainsAll_24 rfl ?_
    refine j_getf (pc := 25) dX6_explainsAll_25 fl_X6_65 (by apply lkE; (with_reducible first | exact lkX_1 | exact lkX_27 | exact lkX_p | exact lkX_34 | exact lkX_35 | exact lkX_107 | exact lkX_125 | exact lkX_127 | exact lkX_28 | exact lkX_30 | exact lkX_32 | exact lkX_p1 | exact lkX_p3 | exact lkX_p5 | exact lkX_p7 | exact lkX_p9 | exact lkX_2 | exact lkX_109 | exact lkX_4 | exact lkX_d); rfl) rfl ?_
    refine j_iload_n (pc := 28) dX6_explainsAll_28 rfl ?_
    refine j_v1 (pc := 29) (ci := 3) dX6_explainsAll_29 mc_X3_at ml_X6_107 im_X3_at se_X3_at rfl rfl (by apply lkE; (with_reducible first | exact lkX_1 | exact lkX_27 | exact lkX_p | exact lkX_34 | exact lkX_35 | exact lkX_107 | exact lkX_125 | exact lkX_127 | exact lkX_28 | exact lkX_30 | exact lkX_32 | exact lkX_p1 | exact lkX_p3 | exact lkX_p5 | exact lkX_p7 | exact lkX_p9 | exact lkX_2 | exact lkX_109 | exact lkX_4 | exact lkX_d); rfl) (by omega) (c_at (n := 6) (by decide) (by apply lkE; (with_reducible first | exact lkX_p3 | exact lkX_28 | exact lkX_30 | exact lkX_32 | exact lkX_107 | exact lkX_125 | exact lkX_127); rfl) (by apply lkE; (with_reducible first | exact lkX_p4 | exact lkX_29 | exact lkX_31 | exact lkX_33 | exact lkX_108 | exact lkX_126 | exact lkX_128); rfl)) (Nat.le_of_ble_eq_true rfl) ?_
    rw [rAt_in (show k < 6 by omega) (by decide)]
    refine j_iload_n (pc := 32) dX6_explainsAll_32 rfl ?_
    refine j_s2 (pc := 33) dX6_explainsAll_33 mc_X6_loadBy ml_X6_281 sm_X6_loadBy (by omega) (c_loadBy) (Nat.le_of_ble_eq_true rfl) ?_
    refine j_v2 (pc := 36) (ci := 6) dX6_explainsAll_36 mc_X6_needleBy ml_X6_170 im_X6_needleBy se_X6_needleBy rfl rfl (by apply lkE; (with_reducible first | exact lkX_1 | exact lkX_27 | exact lkX_p | exact lkX_34 | exact lkX_35 | exact lkX_107 | exact lkX_125 | exact lkX_127 | exact lkX_28 | exact lkX_30 | exact lkX_32 | exact lkX_p1 | exact lkX_p3 | exact lkX_p5 | exact lkX_p7 | exact lkX_p9 | exact lkX_2 | exact lkX_109 | exact lkX_4 | exact lkX_d); rfl) (by omega) (x_needleBy) (Nat.le_of_ble_eq_true rfl) ?_
    refine j_aload_n (pc := 39) dX6_explainsAll_39 rfl ?_
    refine j_getf (pc := 40) dX6_explainsAll_40 fl_X6_68 (by apply lkE; (with_reducible first | exact lkX_1 | exact lkX_27 | exact lkX_p | exact lkX_34 | exact lkX_35 | exact lkX_107 | exact lkX_125 | exact lkX_127 | exact lkX_28 | exact lkX_30 | exact lkX_32 | exact lkX_p1 | exact lkX_p3 | exact lkX_p5 | exact lkX_p7 | exact lkX_p9 | exact lkX_2 | exact lkX_109 | exact lkX_4 | exact lkX_d); rfl) rfl ?_
    refine j_iload_n (pc := 43) dX6_explainsAll_43 rfl ?_
    refine j_v1 (pc := 44) (ci := 3) dX6_explainsAll_44 mc_X3_at ml_X6_107 im_X3_at se_X3_at rfl rfl (by apply lkE; (with_reducible first | exact lkX_1 | exact lkX_27 | exact lkX_p | exact lkX_34 | exact lkX_35 | exact lkX_107 | exact lkX_125 | exact lkX_127 | exact lkX_28 | exact lkX_30 | exact lkX_32 | exact lkX_p1 | exact lkX_p3 | exact lkX_p5 | exact lkX_p7 | exact lkX_p9 | exact lkX_2 | exact lkX_109 | exact lkX_4 | exact lkX_d); rfl) (by omega) (c_at (n := 6) (by decide) (by apply lkE; (with_reducible first | exact lkX_p3 | exact lkX_28 | exact lkX_30 | exact lkX_32 | exact lkX_107 | exact lkX_125 | exact lkX_127); rfl) (by apply lkE; (with_reducible first | exact lkX_p4 | exact lkX_29 | exact lkX_31 | exact lkX_33 | exact lkX_108 | exact lkX_126 | exact lkX_128); rfl)) (Nat.le_of_ble_eq_true rfl) ?_
    rw [rAt_in (show k < 6 by omega) (by decide)]
    refine j_icmp_eq (pc := 47) (tgt := 52) dX6_explainsAll_47 rfl (fun zc47 => ?_) (fun zc47 => ?_)
    · refine j_iinc (pc := 52) dX6_explainsAll_52 rfl rfl (Nat.le_of_ble_eq_true rfl) rfl ?_
      refine j_goto (pc := 55) (tgt := 14) dX6_explainsAll_55 rfl ?_
      rw [nI_s]
      refine ih (k + 1) (by omega) ?_
      simpa [exL, *] using hq
    · refine j_iconst (pc := 50) dX6_explainsAll_50 kc_0 ?_
      refine j_zret (pc := 51) (b := false) dX6_explainsAll_51 rfl rfl ?_
      simpa [exL, *] using hq

set_option maxRecDepth 20000 in
set_option maxHeartbeats 1000000 in
theorem x_explainsAll {s : Int32} {nt : Nat} (htc : tc = nI nt) (hnt : nt ≤ 6) : CD g 2 mX6_explainsAll [.ref 1, .int s] (W1 scr tl lt lc rd sw P D S kk nx ring bu im kept tb tr tc ts) (some (.int (b2i (exA P S tb tr nt s)))) (W1 scr tl lt lc rd sw P D S kk nx ring bu im kept tb tr tc ts) := by
  refine C.of (by decide +kernel) (by simp [Value.category]) (Nat.le_of_ble_eq_true rfl) ?_
  change J g mX6_explainsAll 2 0 0 _ (W1 scr tl lt lc rd sw P D S kk nx ring bu im kept tb tr tc ts) 0 [some (.ref 1), some (.int s), none, none] []
  refine j_aload_n (pc := 0) dX6_explainsAll_0 rfl ?_
  refine j_getf (pc := 1) dX6_explainsAll_1 fl_X6_30 (by apply lkE; (with_reducible first | exact lkX_1 | exact lkX_27 | exact lkX_p | exact lkX_34 | exact lkX_35 | exact lkX_107 | exact lkX_125 | exact lkX_127 | exact lkX_28 | exact lkX_30 | exact lkX_32 | exact lkX_p1 | exact lkX_p3 | exact lkX_p5 | exact lkX_p7 | exact lkX_p9 | exact lkX_2 | exact lkX_109 | exact lkX_4 | exact lkX_d); rfl) rfl ?_
  refine j_getf (pc := 4) dX6_explainsAll_4 fl_X6_104 (by apply lkE; (with_reducible first | exact lkX_1 | exact lkX_27 | exact lkX_p | exact lkX_34 | exact lkX_35 | exact lkX_107 | exact lkX_125 | exact lkX_127 | exact lkX_28 | exact lkX_30 | exact lkX_32 | exact lkX_p1 | exact lkX_p3 | exact lkX_p5 | exact lkX_p7 | exact lkX_p9 | exact lkX_2 | exact lkX_109 | exact lkX_4 | exact lkX_d); rfl) rfl ?_
  refine j_iload_n (pc := 7) dX6_explainsAll_7 rfl ?_
  refine j_v1 (pc := 8) (ci := 3) dX6_explainsAll_8 mc_X3_sumOf ml_X6_126 im_X3_sumOf se_X3_sumOf rfl rfl (by apply lkE; (with_reducible first | exact lkX_1 | exact lkX_27 | exact lkX_p | exact lkX_34 | exact lkX_35 | exact lkX_107 | exact lkX_125 | exact lkX_127 | exact lkX_28 | exact lkX_30 | exact lkX_32 | exact lkX_p1 | exact lkX_p3 | exact lkX_p5 | exact lkX_p7 | exact lkX_p9 | exact lkX_2 | exact lkX_109 | exact lkX_4 | exact lkX_d); rfl) (by omega) (c_sumOf (by apply lkE; (with_reducible first | exact lkX_p1 | exact lkX_p9); rfl) (by apply lkE; (with_reducible first | exact lkX_p2 | exact lkX_p10); rfl)) (Nat.le_of_ble_eq_true rfl) ?_
  refine j_istore_n (pc := 11) dX6_explainsAll_11 rfl (Nat.le_of_ble_eq_true rfl) rfl ?_
  refine j_iconst (pc := 12) dX6_explainsAll_12 kc_0 ?_
  refine j_istore_n (pc := 13) dX6_explainsAll_13 rfl (Nat.le_of_ble_eq_true rfl) rfl ?_
  exact xl_explainsAll htc hnt nt 0 (by omega) ⟨rfl, rfl⟩

set_option maxRecDepth 20000 in
set_option maxHeartbeats 1000000 in
theorem xl_setsWith {w : Int32} {nt : Nat} (htc : tc = nI nt) (hnt : nt ≤ 6) {ne : Nat} (hde : P.2.1 = nI ne) (hne : ne ≤ 6) : ∀ (m k : Nat) (a : Int32), k + m = 2 ^ ne → Q (some (.int (iter (swStep P S tb tr nt w) m k a))) (W1 scr tl lt lc rd sw P D S kk nx ring bu im kept tb tr tc ts) → J g mX6_setsWith 3 0 0 Q (W1 scr tl lt lc rd sw P D S kk nx ring bu im kept tb tr tc ts) 4 [some (.ref 1), some (.int w), some (.int a), some (.int (nI k))] [] := by
  have two := two_le hne
  intro m
  induction m with
  | zero =>
    intro k a hk hq
    refine j_iload_n (pc := 4) dX6_setsWith_4 rfl ?_
    refine j_aload_n (pc := 5) dX6_setsWith_5 rfl ?_
    refine j_getf (pc := 6) dX6_setsWith_6 fl_X6_30 (by apply lkE; (with_reducible first | exact lkX_1 | exact lkX_27 | exact lkX_p | exact lkX_34 | exact lkX_35 | exact lkX_107 | exact lkX_125 | exact lkX_127 | exact lkX_28 | exact lkX_30 | exact lkX_32 | exact lkX_p1 | exact lkX_p3 | exact lkX_p5 | exact lkX_p7 | exact lkX_p9 | exact lkX_2 | exact lkX_109 | exact lkX_4 | exact lkX_d); rfl) rfl ?_
    refine j_getf (pc := 9) dX6_setsWith_9 fl_X6_214 (by apply lkE; (with_reducible first | exact lkX_1 | exact lkX_27 | exact lkX_p | exact lkX_34 | exact lkX_35 | exact lkX_107 | exact lkX_125 | exact lkX_127 | exact lkX_28 | exact lkX_30 | exact lkX_32 | exact lkX_p1 | exact lkX_p3 | exact lkX_p5 | exact lkX_p7 | exact lkX_p9 | exact lkX_2 | exact lkX_109 | exact lkX_4 | exact lkX_d); rfl) rfl ?_
    refine j_s1 (pc := 12) dX6_setsWith_12 mc_X6_allOf ml_X6_195 sm_X6_allOf (by omega) (c_allOf) (Nat.le_of_ble_eq_true rfl) ?_
    refine j_icmp_gt (pc := 15) (tgt := 42) dX6_setsWith_15 rfl (fun _ => ?_) (fun zc15 => absurd (by rw [hde, allI_nI hne]; exact nI_lt (by omega) (by omega)) zc15)
    refine j_iload_n (pc := 42) dX6_setsWith_42 rfl ?_
    refine j_ireturn (pc := 43) dX6_setsWith_43 rfl ?_
    exact hq
  | succ m ih =>
    intro k a hk hq
    refine j_iload_n (pc := 4) dX6_setsWith_4 rfl ?_
    refine j_aload_n (pc := 5) dX6_setsWith_5 rfl ?_
    refine j_getf (pc := 6) dX6_setsWith_6 fl_X6_30 (by apply lkE; (with_reducible first | exact lkX_1 | exact lkX_27 | exact lkX_p | exact lkX_34 | exact lkX_35 | exact lkX_107 | exact lkX_125 | exact lkX_127 | exact lkX_28 | exact lkX_30 | exact lkX_32 | exact lkX_p1 | exact lkX_p3 | exact lkX_p5 | exact lkX_p7 | exact lkX_p9 | exact lkX_2 | exact lkX_109 | exact lkX_4 | exact lkX_d); rfl) rfl ?_
    refine j_getf (pc := 9) dX6_setsWith_9 fl_X6_214 (by apply lkE; (with_reducible first | exact lkX_1 | exact lkX_27 | exact lkX_p | exact lkX_34 | exact lkX_35 | exact lkX_107 | exact lkX_125 | exact lkX_127 | exact lkX_28 | exact lkX_30 | exact lkX_32 | exact lkX_p1 | exact lkX_p3 | exact lkX_p5 | exact lkX_p7 | exact lkX_p9 | exact lkX_2 | exact lkX_109 | exact lkX_4 | exact lkX_d); rfl) rfl ?_
    refine j_s1 (pc := 12) dX6_setsWith_12 mc_X6_allOf ml_X6_195 sm_X6_allOf (by omega) (c_allOf) (Nat.le_of_ble_eq_true rfl) ?_
    refine j_icmp_gt (pc := 15) (tgt := 42) dX6_setsWith_15 rfl (fun zc15 => absurd zc15 (by rw [hde, allI_nI hne]; exact nI_nlt (by omega) (by omega))) (fun _ => ?_)
    refine j_iload_n (pc := 18) dX6_setsWith_18 rfl ?_
    refine j_iload_n (pc := 19) dX6_setsWith_19 rfl ?_
    refine j_iand (pc := 20) dX6_setsWith_20 ?_
    refine j_iload_n (pc := 21) dX6_setsWith_21 rfl ?_
    refine j_icmp_ne (pc := 22) (tgt := 36) dX6_setsWith_22 rfl (fun zc22 => ?_) (fun zc22 => ?_)
    · refine j_iinc (pc := 36) dX6_setsWith_36 rfl rfl (Nat.le_of_ble_eq_true rfl) rfl ?_
      refine j_goto (pc := 39) (tgt := 4) dX6_setsWith_39 rfl ?_
      rw [nI_s]
      refine ih (k + 1) _ (by omega) ?_
      simpa [iter, swStep, *, nI_s] using hq
    · refine j_aload_n (pc := 25) dX6_setsWith_25 rfl ?_
      refine j_iload_n (pc := 26) dX6_setsWith_26 rfl ?_
      refine j_v1 (pc := 27) (ci := 6) dX6_setsWith_27 mc_X6_explainsAll ml_X6_295 im_X6_explainsAll se_X6_explainsAll rfl rfl (by apply lkE; (with_reducible first | exact lkX_1 | exact lkX_27 | exact lkX_p | exact lkX_34 | exact lkX_35 | exact lkX_107 | exact lkX_125 | exact lkX_127 | exact lkX_28 | exact lkX_30 | exact lkX_32 | exact lkX_p1 | exact lkX_p3 | exact lkX_p5 | exact lkX_p7 | exact lkX_p9 | exact lkX_2 | exact lkX_109 | exact lkX_4 | exact lkX_d); rfl) (by omega) (x_explainsAll htc hnt) (Nat.le_of_ble_eq_true rfl) ?_
      refine j_beq (pc := 30) (tgt := 36) dX6_setsWith_30 rfl (fun zc30 => ?_) (fun zc30 => ?_)
      · refine j_iinc (pc := 36) dX6_setsWith_36 rfl rfl (Nat.le_of_ble_eq_true rfl) rfl ?_
        refine j_goto (pc := 39) (tgt := 4) dX6_setsWith_39 rfl ?_
        rw [nI_s]
        refine ih (k + 1) _ (by omega) ?_
        simpa [iter, swStep, *, nI_s] using hq
      · refine j_iinc (pc := 33) dX6_setsWith_33 rfl rfl (Nat.le_of_ble_eq_true rfl) rfl ?_
        refine j_iinc (pc := 36) dX6_setsWith_36 rfl rfl (Nat.le_of_ble_eq_true rfl) rfl ?_
        refine j_goto (pc := 39) (tgt := 4) dX6_setsWith_39 rfl ?_
        rw [nI_s]
        refine ih (k + 1) _ (by omega) ?_
        simpa [iter, swStep, *, nI_s] using hq

set_option maxRecDepth 20000 in
set_option maxHeartbeats 1000000 in
theorem x_setsWith {w : Int32} {nt : Nat} (htc : tc = nI nt) (hnt : nt ≤ 6) {ne : Nat} (hde : P.2.1 = nI ne) (hne : ne ≤ 6) : CD g 3 mX6_setsWith [.ref 1, .int w] (W1 scr tl lt lc rd sw P D S kk nx ring bu im kept tb tr tc ts) (some (.int (swI P S tb tr nt ne w))) (W1 scr tl lt lc rd sw P D S kk nx ring bu im kept tb tr tc ts) := by
  refine C.of (by decide +kernel) (by simp [Value.category]) (Nat.le_of_ble_eq_true rfl) ?_
  change J g mX6_setsWith 3 0 0 _ (W1 scr tl lt lc rd sw P D S kk nx ring bu im kept tb tr tc ts) 0 [some (.ref 1), some (.int w), none, none] []
  refine j_iconst (pc := 0) dX6_setsWith_0 kc_0 ?_
  refine j_istore_n (pc := 1) dX6_setsWith_1 rfl (Nat.le_of_ble_eq_true rfl) rfl ?_
  refine j_iconst (pc := 2) dX6_setsWith_2 kc_0 ?_
  refine j_istore_n (pc := 3) dX6_setsWith_3 rfl (Nat.le_of_ble_eq_true rfl) rfl ?_
  exact xl_setsWith htc hnt hde hne (2 ^ ne) 0 0 (by omega) ⟨rfl, rfl⟩

def daStep (P : ParV) (S : ScV) (tb tr : Fn) (nt ne : Nat) (all : Int32) (k : Nat) (a : Int32) : Int32 := if swI P S tb tr nt ne (bitI (nI k)) = all then a ||| bitI (nI k) else a
def daI (P : ParV) (S : ScV) (tb tr : Fn) (nt ne : Nat) : Int32 := if swI P S tb tr nt ne 0 = 0 then -9 else iter (daStep P S tb tr nt ne (swI P S tb tr nt ne 0)) ne 0 0
def dsStep (P : ParV) (S : ScV) (tb tr : Fn) (nt ne : Nat) (k : Nat) (a : Int32) : Int32 := if swI P S tb tr nt ne (bitI (nI k)) ≤ 0 then a else a ||| bitI (nI k)
/-- the best so far, and how much it is -/
def akStep (P : ParV) (S : ScV) (tb tr : Fn) (nt ne : Nat) (all : Int32) (k : Nat) (a : Int32 × Int32) : Int32 × Int32 :=
  if a.2 ≤ imax (swI P S tb tr nt ne (bitI (nI k))) (all - swI P S tb tr nt ne (bitI (nI k))) then a else (nI k, imax (swI P S tb tr nt ne (bitI (nI k))) (all - swI P S tb tr nt ne (bitI (nI k))))
def akI (P : ParV) (S : ScV) (tb tr : Fn) (nt ne : Nat) : Int32 := if 1 < swI P S tb tr nt ne 0 then (iter (akStep P S tb tr nt ne (swI P S tb tr nt ne 0)) ne 0 (-9, swI P S tb tr nt ne 0 + 1)).1 else -9
set_option maxRecDepth 20000 in
set_option maxHeartbeats 1000000 in
theorem xl_deedsInAll {al : Int32} {nt : Nat} (htc : tc = nI nt) (hnt : nt ≤ 6) {ne : Nat} (hde : P.2.1 = nI ne) (hne : ne ≤ 6) : ∀ (m k : Nat) (a : Int32), k + m = ne → Q (some (.int (iter (daStep P S tb tr nt ne al) m k a))) (W1 scr tl lt lc rd sw P D S kk nx ring bu im kept tb tr tc ts) → J g mX6_deedsInAllSets 4 0 0 Q (W1 scr tl lt lc rd sw P D S kk nx ring bu im kept tb tr tc ts) 17 [some (.ref 1), some (.int al), some (.int a), some (.int (nI k))] [] := by
  intro m
  induction m with
  | zero =>
    intro k a hk hq
    refine j_iload_n (pc := 17) dX6_deedsInAllSets_17 rfl ?_
    refine j_aload_n (pc := 18) dX6_deedsInAllSets_18 rfl ?_
    refine j_getf (pc := 19) dX6_deedsInAllSets_19 fl_X6_30 (by apply lkE; (with_reducible first | exact lkX_1 | exact lkX_27 | exact lkX_p | exact lkX_34 | exact lkX_35 | exact lkX_107 | exact lkX_125 | exact lkX_127 | exact lkX_28 | exact lkX_30 | exact lkX_32 | exact lkX_p1 | exact lkX_p3 | exact lkX_p5 | exact lkX_p7 | exact lkX_p9 | exact lkX_2 | exact lkX_109 | exact lkX_4 | exact lkX_d); rfl) rfl ?_
    refine j_getf (pc := 22) dX6_deedsInAllSets_22 fl_X6_214 (by apply lkE; (with_reducible first | exact lkX_1 | exact lkX_27 | exact lkX_p | exact lkX_34 | exact lkX_35 | exact lkX_107 | exact lkX_125 | exact lkX_127 | exact lkX_28 | exact lkX_30 | exact lkX_32 | exact lkX_p1 | exact lkX_p3 | exact lkX_p5 | exact lkX_p7 | exact lkX_p9 | exact lkX_2 | exact lkX_109 | exact lkX_4 | exact lkX_d); rfl) rfl ?_
    refine j_icmp_ge (pc := 25) (tgt := 53) dX6_deedsInAllSets_25 rfl (fun _ => ?_) (fun zc25 => absurd (by rw [hde]; exact nI_le (by omega) (by omega)) zc25)
    refine j_iload_n (pc := 53) dX6_deedsInAllSets_53 rfl ?_
    refine j_ireturn (pc := 54) dX6_deedsInAllSets_54 rfl ?_
    exact hq
  | succ m ih =>
    intro k a hk hq
    refine j_iload_n (pc := 17) dX6_deedsInAllSets_17 rfl ?_
    refine j_aload_n (pc := 18) dX6_deedsInAllSets_18 rfl ?_
    refine j_getf (pc := 19) dX6_deedsInAllSets_19 fl_X6_30 (by apply lkE; (with_reducible first | exact lkX_1 | exact lkX_27 | exact lkX_p | exact lkX_34 | exact lkX_35 | exact lkX_107 | exact lkX_125 | exact lkX_127 | exact lkX_28 | exact lkX_30 | exact lkX_32 | exact lkX_p1 | exact lkX_p3 | exact lkX_p5 | exact lkX_p7 | exact lkX_p9 | exact lkX_2 | exact lkX_109 | exact lkX_4 | exact lkX_d); rfl) rfl ?_
    refine j_getf (pc := 22) dX6_deedsInAllSets_22 fl_X6_214 (by apply lkE; (with_reducible first | exact lkX_1 | exact lkX_27 | exact lkX_p | exact lkX_34 | exact lkX_35 | exact lkX_107 | exact lkX_125 | exact lkX_127 | exact lkX_28 | exact lkX_30 | exact lkX_32 | exact lkX_p1 | exact lkX_p3 | exact lkX_p5 | exact lkX_p7 | exact lkX_p9 | exact lkX_2 | exact lkX_109 | exact lkX_4 | exact lkX_d); rfl) rfl ?_
    refine j_icmp_ge (pc := 25) (tgt := 53) dX6_deedsInAllSets_25 rfl (fun zc25 => absurd zc25 (by rw [hde]; exact nI_ge (by omega) (by omega))) (fun _ => ?_)
    refine j_aload_n (pc := 28) dX6_deedsInAllSets_28 rfl ?_
    refine j_iload_n (pc := 29) dX6_deedsInAllSets_29 rfl ?_
    refine j_s1 (pc := 30) dX6_deedsInAllSets_30 mc_X6_bit ml_X6_178 sm_X6_bit (by omega) (c_bit) (Nat.le_of_ble_eq_true rfl) ?_
    refine j_v1 (pc := 33) (ci := 6) dX6_deedsInAllSets_33 mc_X6_setsWith ml_X6_205 im_X6_setsWith se_X6_setsWith rfl rfl (by apply lkE; (with_reducible first | exact lkX_1 | exact lkX_27 | exact lkX_p | exact lkX_34 | exact lkX_35 | exact lkX_107 | exact lkX_125 | exact lkX_127 | exact lkX_28 | exact lkX_30 | exact lkX_32 | exact lkX_p1 | exact lkX_p3 | exact lkX_p5 | exact lkX_p7 | exact lkX_p9 | exact lkX_2 | exact lkX_109 | exact lkX_4 | exact lkX_d); rfl) (by omega) (x_setsWith htc hnt hde hne) (Nat.le_of_ble_eq_true rfl) ?_
    refine j_iload_n (pc := 36) dX6_deedsInAllSets_36 rfl ?_
    refine j_icmp_ne (pc := 37) (tgt := 47) dX6_deedsInAllSets_37 rfl (fun zc37 => ?_) (fun zc37 => ?_)
    · refine j_iinc (pc := 47) dX6_deedsInAllSets_47 rfl rfl (Nat.le_of_ble_eq_true rfl) rfl ?_
      refine j_goto (pc := 50) (tgt := 17) dX6_deedsInAllSets_50 rfl ?_
      rw [nI_s]
      refine ih (k + 1) _ (by omega) ?_
      simpa [iter, daStep, *] using hq
    · refine j_iload_n (pc := 40) dX6_deedsInAllSets_40 rfl ?_
      refine j_iload_n (pc := 41) dX6_deedsInAllSets_41 rfl ?_
      refine j_s1 (pc := 42) dX6_deedsInAllSets_42 mc_X6_bit ml_X6_178 sm_X6_bit (by omega) (c_bit) (Nat.le_of_ble_eq_true rfl) ?_
      refine j_ior (pc := 45) dX6_deedsInAllSets_45 ?_
      refine j_istore_n (pc := 46) dX6_deedsInAllSets_46 rfl (Nat.le_of_ble_eq_true rfl) rfl ?_
      refine j_iinc (pc := 47) dX6_deedsInAllSets_47 rfl rfl (Nat.le_of_ble_eq_true rfl) rfl ?_
      refine j_goto (pc := 50) (tgt := 17) dX6_deedsInAllSets_50 rfl ?_
      rw [nI_s]
      refine ih (k + 1) _ (by omega) ?_
      simpa [iter, daStep, *] using hq

set_option maxRecDepth 20000 in
set_option maxHeartbeats 1000000 in
theorem x_deedsInAll {nt : Nat} (htc : tc = nI nt) (hnt : nt ≤ 6) {ne : Nat} (hde : P.2.1 = nI ne) (hne : ne ≤ 6) : CD g 4 mX6_deedsInAllSets [.ref 1] (W1 scr tl lt lc rd sw P D S kk nx ring bu im kept tb tr tc ts) (some (.int (daI P S tb tr nt ne))) (W1 scr tl lt lc rd sw P D S kk nx ring bu im kept tb tr tc ts) := by
  refine C.of (by decide +kernel) (by simp [Value.category]) (Nat.le_of_ble_eq_true rfl) ?_
  change J g mX6_deedsInAllSets 4 0 0 _ (W1 scr tl lt lc rd sw P D S kk nx ring bu im kept tb tr tc ts) 0 [some (.ref 1), none, none, none] []
  refine j_aload_n (pc := 0) dX6_deedsInAllSets_0 rfl ?_
  refine j_iconst (pc := 1) dX6_deedsInAllSets_1 kc_0 ?_
  refine j_v1 (pc := 2) (ci := 6) dX6_deedsInAllSets_2 mc_X6_setsWith ml_X6_205 im_X6_setsWith se_X6_setsWith rfl rfl (by apply lkE; (with_reducible first | exact lkX_1 | exact lkX_27 | exact lkX_p | exact lkX_34 | exact lkX_35 | exact lkX_107 | exact lkX_125 | exact lkX_127 | exact lkX_28 | exact lkX_30 | exact lkX_32 | exact lkX_p1 | exact lkX_p3 | exact lkX_p5 | exact lkX_p7 | exact lkX_p9 | exact lkX_2 | exact lkX_109 | exact lkX_4 | exact lkX_d); rfl) (by omega) (x_setsWith htc hnt hde hne) (Nat.le_of_ble_eq_true rfl) ?_
  refine j_istore_n (pc := 5) dX6_deedsInAllSets_5 rfl (Nat.le_of_ble_eq_true rfl) rfl ?_
  refine j_iload_n (pc := 6) dX6_deedsInAllSets_6 rfl ?_
  refine j_if_ne (pc := 7) (tgt := 13) dX6_deedsInAllSets_7 rfl (fun zc7 => ?_) (fun zc7 => ?_)
  · refine j_iconst (pc := 13) dX6_deedsInAllSets_13 kc_0 ?_
    refine j_istore_n (pc := 14) dX6_deedsInAllSets_14 rfl (Nat.le_of_ble_eq_true rfl) rfl ?_
    refine j_iconst (pc := 15) dX6_deedsInAllSets_15 kc_0 ?_
    refine j_istore_n (pc := 16) dX6_deedsInAllSets_16 rfl (Nat.le_of_ble_eq_true rfl) rfl ?_
    exact xl_deedsInAll htc hnt hde hne ne 0 0 (by omega) ⟨by simp [daI, *], rfl⟩
  · refine j_bipush (pc := 10) dX6_deedsInAllSets_10 kb_m9 ?_
    refine j_ireturn (pc := 12) dX6_deedsInAllSets_12 rfl ?_
    exact ⟨by simp [daI, *], rfl⟩

set_option maxRecDepth 20000 in
set_option maxHeartbeats 1000000 in
theorem xl_deedsInSome {nt : Nat} (htc : tc = nI nt) (hnt : nt ≤ 6) {ne : Nat} (hde : P.2.1 = nI ne) (hne : ne ≤ 6) : ∀ (m k : Nat) (a : Int32), k + m = ne → Q (some (.int (iter (dsStep P S tb tr nt ne) m k a))) (W1 scr tl lt lc rd sw P D S kk nx ring bu im kept tb tr tc ts) → J g mX6_deedsInSomeSets 4 0 0 Q (W1 scr tl lt lc rd sw P D S kk nx ring bu im kept tb tr tc ts) 4 [some (.ref 1), some (.int a), some (.int (nI k))] [] := by
  intro m
  induction m with
  | zero =>
    intro k a hk hq
    refine j_iload_n (pc := 4) dX6_deedsInSomeSets_4 rfl ?_
    refine j_aload_n (pc := 5) dX6_deedsInSomeSets_5 rfl ?_
    refine j_getf (pc := 6) dX6_deedsInSomeSets_6 fl_X6_30 (by apply lkE; (with_reducible first | exact lkX_1 | exact lkX_27 | exact lkX_p | exact lkX_34 | exact lkX_35 | exact lkX_107 | exact lkX_125 | exact lkX_127 | exact lkX_28 | exact lkX_30 | exact lkX_32 | exact lkX_p1 | exact lkX_p3 | exact lkX_p5 | exact lkX_p7 | exact lkX_p9 | exact lkX_2 | exact lkX_109 | exact lkX_4 | exact lkX_d); rfl) rfl ?_
    refine j_getf (pc := 9) dX6_deedsInSomeSets_9 fl_X6_214 (by apply lkE; (with_reducible first | exact lkX_1 | exact lkX_27 | exact lkX_p | exact lkX_34 | exact lkX_35 | exact lkX_107 | exact lkX_125 | exact lkX_127 | exact lkX_28 | exact lkX_30 | exact lkX_32 | exact lkX_p1 | exact lkX_p3 | exact lkX_p5 | exact lkX_p7 | exact lkX_p9 | exact lkX_2 | exact lkX_109 | exact lkX_4 | exact lkX_d); rfl) rfl ?_
    refine j_icmp_ge (pc := 12) (tgt := 39) dX6_deedsInSomeSets_12 rfl (fun _ => ?_) (fun zc12 => absurd (by rw [hde]; exact nI_le (by omega) (by omega)) zc12)
    refine j_iload_n (pc := 39) dX6_deedsInSomeSets_39 rfl ?_
    refine j_ireturn (pc := 40) dX6_deedsInSomeSets_40 rfl ?_
    exact hq
  | succ m ih =>
    intro k a hk hq
    refine j_iload_n (pc := 4) dX6_deedsInSomeSets_4 rfl ?_
    refine j_aload_n (pc := 5) dX6_deedsInSomeSets_5 rfl ?_
    refine j_getf (pc := 6) dX6_deedsInSomeSets_6 fl_X6_30 (by apply lkE; (with_reducible first | exact lkX_1 | exact lkX_27 | exact lkX_p | exact lkX_34 | exact lkX_35 | exact lkX_107 | exact lkX_125 | exact lkX_127 | exact lkX_28 | exact lkX_30 | exact lkX_32 | exact lkX_p1 | exact lkX_p3 | exact lkX_p5 | exact lkX_p7 | exact lkX_p9 | exact lkX_2 | exact lkX_109 | exact lkX_4 | exact lkX_d); rfl) rfl ?_
    refine j_getf (pc := 9) dX6_deedsInSomeSets_9 fl_X6_214 (by apply lkE; (with_reducible first | exact lkX_1 | exact lkX_27 | exact lkX_p | exact lkX_34 | exact lkX_35 | exact lkX_107 | exact lkX_125 | exact lkX_127 | exact lkX_28 | exact lkX_30 | exact lkX_32 | exact lkX_p1 | exact lkX_p3 | exact lkX_p5 | exact lkX_p7 | exact lkX_p9 | exact lkX_2 | exact lkX_109 | exact lkX_4 | exact lkX_d); rfl) rfl ?_
    refine j_icmp_ge (pc := 12) (tgt := 39) dX6_deedsInSomeSets_12 rfl (fun zc12 => absurd zc12 (by rw [hde]; exact nI_ge (by omega) (by omega))) (fun _ => ?_)
    refine j_aload_n (pc := 15) dX6_deedsInSomeSets_15 rfl ?_
    refine j_iload_n (pc := 16) dX6_deedsInSomeSets_16 rfl ?_
    refine j_s1 (pc := 17) dX6_deedsInSomeSets_17 mc_X6_bit ml_X6_178 sm_X6_bit (by omega) (c_bit) (Nat.le_of_ble_eq_true rfl) ?_
    refine j_v1 (pc := 20) (ci := 6) dX6_deedsInSomeSets_20 mc_X6_setsWith ml_X6_205 im_X6_setsWith se_X6_setsWith rfl rfl (by apply lkE; (with_reducible first | exact lkX_1 | exact lkX_27 | exact lkX_p | exact lkX_34 | exact lkX_35 | exact lkX_107 | exact lkX_125 | exact lkX_127 | exact lkX_28 | exact lkX_30 | exact lkX_32 | exact lkX_p1 | exact lkX_p3 | exact lkX_p5 | exact lkX_p7 | exact lkX_p9 | exact lkX_2 | exact lkX_109 | exact lkX_4 | exact lkX_d); rfl) (by omega) (x_setsWith htc hnt hde hne) (Nat.le_of_ble_eq_true rfl) ?_
    refine j_if_le (pc := 23) (tgt := 33) dX6_deedsInSomeSets_23 rfl (fun zc23 => ?_) (fun zc23 => ?_)
    · refine j_iinc (pc := 33) dX6_deedsInSomeSets_33 rfl rfl (Nat.le_of_ble_eq_true rfl) rfl ?_
      refine j_goto (pc := 36) (tgt := 4) dX6_deedsInSomeSets_36 rfl ?_
      rw [nI_s]
      refine ih (k + 1) _ (by omega) ?_
      simpa [iter, dsStep, *] using hq
    · refine j_iload_n (pc := 26) dX6_deedsInSomeSets_26 rfl ?_
      refine j_iload_n (pc := 27) dX6_deedsInSomeSets_27 rfl ?_
      refine j_s1 (pc := 28) dX6_deedsInSomeSets_28 mc_X6_bit ml_X6_178 sm_X6_bit (by omega) (c_bit) (Nat.le_of_ble_eq_true rfl) ?_
      refine j_ior (pc := 31) dX6_deedsInSomeSets_31 ?_
      refine j_istore_n (pc := 32) dX6_deedsInSomeSets_32 rfl (Nat.le_of_ble_eq_true rfl) rfl ?_
      refine j_iinc (pc := 33) dX6_deedsInSomeSets_33 rfl rfl (Nat.le_of_ble_eq_true rfl) rfl ?_
      refine j_goto (pc := 36) (tgt := 4) dX6_deedsInSomeSets_36 rfl ?_
      rw [nI_s]
      refine ih (k + 1) _ (by omega) ?_
      simpa [iter, dsStep, *] using hq

set_option maxRecDepth 20000 in
set_option maxHeartbeats 1000000 in
theorem x_deedsInSome {nt : Nat} (htc : tc = nI nt) (hnt : nt ≤ 6) {ne : Nat} (hde : P.2.1 = nI ne) (hne : ne ≤ 6) : CD g 4 mX6_deedsInSomeSets [.ref 1] (W1 scr tl lt lc rd sw P D S kk nx ring bu im kept tb tr tc ts) (some (.int (iter (dsStep P S tb tr nt ne) ne 0 0))) (W1 scr tl lt lc rd sw P D S kk nx ring bu im kept tb tr tc ts) := by
  refine C.of (by decide +kernel) (by simp [Value.category]) (Nat.le_of_ble_eq_true rfl) ?_
  change J g mX6_deedsInSomeSets 4 0 0 _ (W1 scr tl lt lc rd sw P D S kk nx ring bu im kept tb tr tc ts) 0 [some (.ref 1), none, none] []
  refine j_iconst (pc := 0) dX6_deedsInSomeSets_0 kc_0 ?_
  refine j_istore_n (pc := 1) dX6_deedsInSomeSets_1 rfl (Nat.le_of_ble_eq_true rfl) rfl ?_
  refine j_iconst (pc := 2) dX6_deedsInSomeSets_2 kc_0 ?_
  refine j_istore_n (pc := 3) dX6_deedsInSomeSets_3 rfl (Nat.le_of_ble_eq_true rfl) rfl ?_
  exact xl_deedsInSome htc hnt hde hne ne 0 0 (by omega) ⟨rfl, rfl⟩

set_option maxRecDepth 20000 in
set_option maxHeartbeats 1000000 in
theorem xl_ask {al : Int32} {nt : Nat} (htc : tc = nI nt) (hnt : nt ≤ 6) {ne : Nat} (hde : P.2.1 = nI ne) (hne : ne ≤ 6) : ∀ (m k : Nat) (a : Int32) (b : Int32), k + m = ne → Q (some (.int (iter (akStep P S tb tr nt ne al) m k (a, b)).1)) (W1 scr tl lt lc rd sw P D S kk nx ring bu im kept tb tr tc ts) → J g mX6_ask 4 0 0 Q (W1 scr tl lt lc rd sw P D S kk nx ring bu im kept tb tr tc ts) 24 [some (.ref 1), some (.int al), some (.int a), some (.int b), some (.int (nI k)), none, none] [] := by
  intro m
  induction m with
  | zero =>
    intro k a b hk hq
    refine j_iload (pc := 24) dX6_ask_24 rfl ?_
    refine j_aload_n (pc := 26) dX6_ask_26 rfl ?_
    refine j_getf (pc := 27) dX6_ask_27 fl_X6_30 (by apply lkE; (with_reducible first | exact lkX_1 | exact lkX_27 | exact lkX_p | exact lkX_34 | exact lkX_35 | exact lkX_107 | exact lkX_125 | exact lkX_127 | exact lkX_28 | exact lkX_30 | exact lkX_32 | exact lkX_p1 | exact lkX_p3 | exact lkX_p5 | exact lkX_p7 | exact lkX_p9 | exact lkX_2 | exact lkX_109 | exact lkX_4 | exact lkX_d); rfl) rfl ?_
    refine j_getf (pc := 30) dX6_ask_30 fl_X6_214 (by apply lkE; (with_reducible first | exact lkX_1 | exact lkX_27 | exact lkX_p | exact lkX_34 | exact lkX_35 | exact lkX_107 | exact lkX_125 | exact lkX_127 | exact lkX_28 | exact lkX_30 | exact lkX_32 | exact lkX_p1 | exact lkX_p3 | exact lkX_p5 | exact lkX_p7 | exact lkX_p9 | exact lkX_2 | exact lkX_109 | exact lkX_4 | exact lkX_d); rfl) rfl ?_
    refine j_icmp_ge (pc := 33) (tgt := 76) dX6_ask_33 rfl (fun _ => ?_) (fun zc33 => absurd (by rw [hde]; exact nI_le (by omega) (by omega)) zc33)
    refine j_iload_n (pc := 76) dX6_ask_76 rfl ?_
    refine j_ireturn (pc := 77) dX6_ask_77 rfl ?_
    exact hq
  | succ m ih =>
    intro k a b hk hq
    refine j_iload (pc := 24) dX6_ask_24 rfl ?_
    refine j_aload_n (pc := 26) dX6_ask_26 rfl ?_
    refine j_getf (pc := 27) dX6_ask_27 fl_X6_30 (by apply lkE; (with_reducible first | exact lkX_1 | exact lkX_27 | exact lkX_p | exact lkX_34 | exact lkX_35 | exact lkX_107 | exact lkX_125 | exact lkX_127 | exact lkX_28 | exact lkX_30 | exact lkX_32 | exact lkX_p1 | exact lkX_p3 | exact lkX_p5 | exact lkX_p7 | exact lkX_p9 | exact lkX_2 | exact lkX_109 | exact lkX_4 | exact lkX_d); rfl) rfl ?_
    refine j_getf (pc := 30) dX6_ask_30 fl_X6_214 (by apply lkE; (with_reducible first | exact lkX_1 | exact lkX_27 | exact lkX_p | exact lkX_34 | exact lkX_35 | exact lkX_107 | exact lkX_125 | exact lkX_127 | exact lkX_28 | exact lkX_30 | exact lkX_32 | exact lkX_p1 | exact lkX_p3 | exact lkX_p5 | exact lkX_p7 | exact lkX_p9 | exact lkX_2 | exact lkX_109 | exact lkX_4 | exact lkX_d); rfl) rfl ?_
    refine j_icmp_ge (pc := 33) (tgt := 76) dX6_ask_33 rfl (fun zc33 => absurd zc33 (by rw [hde]; exact nI_ge (by omega) (by omega))) (fun _ => ?_)
    refine j_aload_n (pc := 36) dX6_ask_36 rfl ?_
    refine j_iload (pc := 37) dX6_ask_37 rfl ?_
    refine j_s1 (pc := 39) dX6_ask_39 mc_X6_bit ml_X6_178 sm_X6_bit (by omega) (c_bit) (Nat.le_of_ble_eq_true rfl) ?_
    refine j_v1 (pc := 42) (ci := 6) dX6_ask_42 mc_X6_setsWith ml_X6_205 im_X6_setsWith se_X6_setsWith rfl rfl (by apply lkE; (with_reducible first | exact lkX_1 | exact lkX_27 | exact lkX_p | exact lkX_34 | exact lkX_35 | exact lkX_107 | exact lkX_125 | exact lkX_127 | exact lkX_28 | exact lkX_30 | exact lkX_32 | exact lkX_p1 | exact lkX_p3 | exact lkX_p5 | exact lkX_p7 | exact lkX_p9 | exact lkX_2 | exact lkX_109 | exact lkX_4 | exact lkX_d); rfl) (by omega) (x_setsWith htc hnt hde hne) (Nat.le_of_ble_eq_true rfl) ?_
    refine j_istore (pc := 45) dX6_ask_45 (Nat.le_of_ble_eq_true rfl) rfl ?_
    refine j_iload (pc := 47) dX6_ask_47 rfl ?_
    refine j_iload_n (pc := 49) dX6_ask_49 rfl ?_
    refine j_iload (pc := 50) dX6_ask_50 rfl ?_
    refine j_isub (pc := 52) dX6_ask_52 ?_
    refine j_max (pc := 53) dX6_ask_53 ml_X6_217 (by omega) (Nat.le_of_ble_eq_true rfl) ?_
    refine j_istore (pc := 56) dX6_ask_56 (Nat.le_of_ble_eq_true rfl) rfl ?_
    refine j_iload (pc := 58) dX6_ask_58 rfl ?_
    refine j_iload_n (pc := 60) dX6_ask_60 rfl ?_
    refine j_icmp_ge (pc := 61) (tgt := 70) dX6_ask_61 rfl (fun zc61 => ?_) (fun zc61 => ?_)
    · refine j_iinc (pc := 70) dX6_ask_70 rfl rfl (Nat.le_of_ble_eq_true rfl) rfl ?_
      refine j_goto (pc := 73) (tgt := 24) dX6_ask_73 rfl ?_
      rw [nI_s]
      refine j_weak (ls' := [some _, some _, some _, some _, some _, none, none]) ⟨rfl, rfl, rfl, rfl, rfl, trivial⟩ ?_
      refine ih (k + 1) _ _ (by omega) ?_
      simpa [iter, akStep, *] using hq
    · refine j_iload (pc := 64) dX6_ask_64 rfl ?_
      refine j_istore_n (pc := 66) dX6_ask_66 rfl (Nat.le_of_ble_eq_true rfl) rfl ?_
      refine j_iload (pc := 67) dX6_ask_67 rfl ?_
      refine j_istore_n (pc := 69) dX6_ask_69 rfl (Nat.le_of_ble_eq_true rfl) rfl ?_
      refine j_iinc (pc := 70) dX6_ask_70 rfl rfl (Nat.le_of_ble_eq_true rfl) rfl ?_
      refine j_goto (pc := 73) (tgt := 24) dX6_ask_73 rfl ?_
      rw [nI_s]
      refine j_weak (ls' := [some _, some _, some _, some _, some _, none, none]) ⟨rfl, rfl, rfl, rfl, rfl, trivial⟩ ?_
      refine ih (k + 1) _ _ (by omega) ?_
      simpa [iter, akStep, *] using hq

set_option maxRecDepth 20000 in
set_option maxHeartbeats 1000000 in
theorem x_ask {nt : Nat} (htc : tc = nI nt) (hnt : nt ≤ 6) {ne : Nat} (hde : P.2.1 = nI ne) (hne : ne ≤ 6) : CD g 4 mX6_ask [.ref 1] (W1 scr tl lt lc rd sw P D S kk nx ring bu im kept tb tr tc ts) (some (.int (akI P S tb tr nt ne))) (W1 scr tl lt lc rd sw P D S kk nx ring bu im kept tb tr tc ts) := by
  refine C.of (by decide +kernel) (by simp [Value.category]) (Nat.le_of_ble_eq_true rfl) ?_
  change J g mX6_ask 4 0 0 _ (W1 scr tl lt lc rd sw P D S kk nx ring bu im kept tb tr tc ts) 0 [some (.ref 1), none, none, none, none, none, none] []
  refine j_aload_n (pc := 0) dX6_ask_0 rfl ?_
  refine j_iconst (pc := 1) dX6_ask_1 kc_0 ?_
  refine j_v1 (pc := 2) (ci := 6) dX6_ask_2 mc_X6_setsWith ml_X6_205 im_X6_setsWith se_X6_setsWith rfl rfl (by apply lkE; (with_reducible first | exact lkX_1 | exact lkX_27 | exact lkX_p | exact lkX_34 | exact lkX_35 | exact lkX_107 | exact lkX_125 | exact lkX_127 | exact lkX_28 | exact lkX_30 | exact lkX_32 | exact lkX_p1 | exact lkX_p3 | exact lkX_p5 | exact lkX_p7 | exact lkX_p9 | exact lkX_2 | exact lkX_109 | exact lkX_4 | exact lkX_d); rfl) (by omega) (x_setsWith htc hnt hde hne) (Nat.le_of_ble_eq_true rfl) ?_
  refine j_istore_n (pc := 5) dX6_ask_5 rfl (Nat.le_of_ble_eq_true rfl) rfl ?_
  refine j_iload_n (pc := 6) dX6_ask_6 rfl ?_
  refine j_iconst (pc := 7) dX6_ask_7 kc_1 ?_
  refine j_icmp_gt (pc := 8) (tgt := 14) dX6_ask_8 rfl (fun zc8 => ?_) (fun zc8 => ?_)
  · refine j_bipush (pc := 14) dX6_ask_14 kb_m9 ?_
    refine j_istore_n (pc := 16) dX6_ask_16 rfl (Nat.le_of_ble_eq_true rfl) rfl ?_
    refine j_iload_n (pc := 17) dX6_ask_17 rfl ?_
    refine j_iconst (pc := 18) dX6_ask_18 kc_1 ?_
    refine j_iadd (pc := 19) dX6_ask_19 ?_
    refine j_istore_n (pc := 20) dX6_ask_20 rfl (Nat.le_of_ble_eq_true rfl) rfl ?_
    refine j_iconst (pc := 21) dX6_ask_21 kc_0 ?_
    refine j_istore (pc := 22) dX6_ask_22 (Nat.le_of_ble_eq_true rfl) rfl ?_
    exact xl_ask htc hnt hde hne ne 0 (-9) _ (by omega) ⟨by simp [akI, *], rfl⟩
  · refine j_bipush (pc := 11) dX6_ask_11 kb_m9 ?_
    refine j_ireturn (pc := 13) dX6_ask_13 rfl ?_
    exact ⟨by simp [akI, *], rfl⟩

end

/-! the class's simple calls -/
section
variable {g : GG} {h : List AC} {Q : Option Value → List AC → Prop} {scr : AC} {tl : List AC} {lt : Fn} {lc : Int32} {rd : RdV} {sw : Bool} {P : ParV} {D : ParV} {S : ScV} {kk : Int32} {nx : Int32} {ring : Nat → ScV} {bu : Fn} {im : Nat → ScV} {kept : Int32} {tb : Fn} {tr : Fn} {tc : Int32} {ts : Int64}
theorem CD.heap {g : GG} {d : Nat} {y : MI} {av : List Value} {h h2 h3 : List AC} {r : Option Value} (e : h2 = h3) (k : CD g d y av h r h2) : CD g d y av h r h3 := e ▸ k
set_option maxRecDepth 20000 in
set_option maxHeartbeats 200000 in
theorem x_remember1 {j q : Nat} (hnx : nx = nI j) (hj : j < 10) (hkk : kk = nI q) (hq : q ≤ 10) (h9 : j + 1 < 10) : CD g 4 mX0_remember [.ref 34, .ref 27] (W1 scr tl lt lc rd sw P D S kk nx ring bu im kept tb tr tc ts) none (W1 scr tl lt lc rd sw P D S (nI (min (q + 1) 10)) (nI (nj j)) (updS ring j S) bu im kept tb tr tc ts) := by
  refine C.of (by decide +kernel) (by simp [Value.category]) (Nat.le_of_ble_eq_true rfl) ?_
  change J g mX0_remember 4 0 0 _ (W1 scr tl lt lc rd sw P D S kk nx ring bu im kept tb tr tc ts) 0 [some (.ref 34), some (.ref 27)] []
  rw [hnx, hkk]
  refine j_aload_n (pc := 0) dX0_remember_0 rfl ?_
  refine j_getf (pc := 1) dX0_remember_1 fl_X0_14 (by apply lkE; (with_reducible first | exact lkX_1 | exact lkX_27 | exact lkX_p | exact lkX_34 | exact lkX_35 | exact lkX_107 | exact lkX_125 | exact lkX_127 | exact lkX_28 | exact lkX_30 | exact lkX_32 | exact lkX_p1 | exact lkX_p3 | exact lkX_p5 | exact lkX_p7 | exact lkX_p9 | exact lkX_2 | exact lkX_109 | exact lkX_4 | exact lkX_d); rfl) rfl ?_
  refine j_aload_n (pc := 4) dX0_remember_4 rfl ?_
  refine j_getf (pc := 5) dX0_remember_5 fl_X0_20 (by apply lkE; (with_reducible first | exact lkX_1 | exact lkX_27 | exact lkX_p | exact lkX_34 | exact lkX_35 | exact lkX_107 | exact lkX_125 | exact lkX_127 | exact lkX_28 | exact lkX_30 | exact lkX_32 | exact lkX_p1 | exact lkX_p3 | exact lkX_p5 | exact lkX_p7 | exact lkX_p9 | exact lkX_2 | exact lkX_109 | exact lkX_4 | exact lkX_d); rfl) rfl ?_
  refine j_aload_n (pc := 8) dX0_remember_8 rfl ?_
  refine j_v2n (pc := 9) (ci := 5) dX0_remember_9 mc_X5_put ml_X0_24 im_X5_put se_X5_put rfl rfl (by apply lkE; (with_reducible first | exact lkX_1 | exact lkX_27 | exact lkX_p | exact lkX_34 | exact lkX_35 | exact lkX_107 | exact lkX_125 | exact lkX_127 | exact lkX_28 | exact lkX_30 | exact lkX_32 | exact lkX_p1 | exact lkX_p3 | exact lkX_p5 | exact lkX_p7 | exact lkX_p9 | exact lkX_2 | exact lkX_109 | exact lkX_4 | exact lkX_d); rfl) (by omega) (CD.heap (ring_set hj) (c_shPut (j := j) lkX_35 lkX_36 (show ringC.2.length = 10 from rfl) (by decide) hj (ring_v hj) (ring_at hj) ⟨lkX_27, lkX_28, lkX_29, lkX_30, lkX_31, lkX_32, lkX_33⟩ (by omega))) (Nat.le_of_ble_eq_true rfl) ?_
  refine j_aload_n (pc := 12) dX0_remember_12 rfl ?_
  refine j_aload_n (pc := 13) dX0_remember_13 rfl ?_
  refine j_getf (pc := 14) dX0_remember_14 fl_X0_20 (by apply lkE; (with_reducible first | exact lkX_1 | exact lkX_27 | exact lkX_p | exact lkX_34 | exact lkX_35 | exact lkX_107 | exact lkX_125 | exact lkX_127 | exact lkX_28 | exact lkX_30 | exact lkX_32 | exact lkX_p1 | exact lkX_p3 | exact lkX_p5 | exact lkX_p7 | exact lkX_p9 | exact lkX_2 | exact lkX_109 | exact lkX_4 | exact lkX_d); rfl) rfl ?_
  refine j_iconst (pc := 17) dX0_remember_17 kc_1 ?_
  refine j_iadd (pc := 18) dX0_remember_18 ?_
  refine j_bipush (pc := 19) dX0_remember_19 kb_10 ?_
  refine j_icmp_ge (pc := 21) (tgt := 33) dX0_remember_21 rfl (fun zc21 => absurd zc21 (by rw [nI_s1]; exact nI_ge (a := j + 1) (b := 10) h9 (by omega))) (fun _ => ?_)
  refine j_aload_n (pc := 24) dX0_remember_24 rfl ?_
  refine j_getf (pc := 25) dX0_remember_25 fl_X0_20 (by apply lkE; (with_reducible first | exact lkX_1 | exact lkX_27 | exact lkX_p | exact lkX_34 | exact lkX_35 | exact lkX_107 | exact lkX_125 | exact lkX_127 | exact lkX_28 | exact lkX_30 | exact lkX_32 | exact lkX_p1 | exact lkX_p3 | exact lkX_p5 | exact lkX_p7 | exact lkX_p9 | exact lkX_2 | exact lkX_109 | exact lkX_4 | exact lkX_d); rfl) rfl ?_
  refine j_iconst (pc := 28) dX0_remember_28 kc_1 ?_
  refine j_iadd (pc := 29) dX0_remember_29 ?_
  refine j_goto (pc := 30) (tgt := 34) dX0_remember_30 rfl ?_
  rw [show nI j + 1 = nI (nj j) by rw [nI_s1, nj, if_pos h9]]
  refine j_putf (pc := 34) dX0_remember_34 fl_X0_20 (jfit_i _) (by apply lkE; (with_reducible first | exact lkX_1 | exact lkX_27 | exact lkX_p | exact lkX_34 | exact lkX_35 | exact lkX_107 | exact lkX_125 | exact lkX_127 | exact lkX_28 | exact lkX_30 | exact lkX_32 | exact lkX_p1 | exact lkX_p3 | exact lkX_p5 | exact lkX_p7 | exact lkX_p9 | exact lkX_2 | exact lkX_109 | exact lkX_4 | exact lkX_d); rfl) upX_34 ?_
  refine j_aload_n (pc := 37) dX0_remember_37 rfl ?_
  refine j_aload_n (pc := 38) dX0_remember_38 rfl ?_
  refine j_getf (pc := 39) dX0_remember_39 fl_X0_28 (by apply lkE; (with_reducible first | exact lkX_1 | exact lkX_27 | exact lkX_p | exact lkX_34 | exact lkX_35 | exact lkX_107 | exact lkX_125 | exact lkX_127 | exact lkX_28 | exact lkX_30 | exact lkX_32 | exact lkX_p1 | exact lkX_p3 | exact lkX_p5 | exact lkX_p7 | exact lkX_p9 | exact lkX_2 | exact lkX_109 | exact lkX_4 | exact lkX_d); rfl) rfl ?_
  refine j_iconst (pc := 42) dX0_remember_42 kc_1 ?_
  refine j_iadd (pc := 43) dX0_remember_43 ?_
  refine j_bipush (pc := 44) dX0_remember_44 kb_10 ?_
  refine j_min (pc := 46) dX0_remember_46 ml_X0_31 (by omega) (Nat.le_of_ble_eq_true rfl) ?_
  rw [nI_s1, show (10 : Int32) = nI 10 from rfl, imin_nI (by omega) (by omega)]
  refine j_putf (pc := 49) dX0_remember_49 fl_X0_28 (jfit_i _) (by apply lkE; (with_reducible first | exact lkX_1 | exact lkX_27 | exact lkX_p | exact lkX_34 | exact lkX_35 | exact lkX_107 | exact lkX_125 | exact lkX_127 | exact lkX_28 | exact lkX_30 | exact lkX_32 | exact lkX_p1 | exact lkX_p3 | exact lkX_p5 | exact lkX_p7 | exact lkX_p9 | exact lkX_2 | exact lkX_109 | exact lkX_4 | exact lkX_d); rfl) upX_34 ?_
  refine j_return (pc := 52) dX0_remember_52 rfl ?_
  exact ⟨rfl, rfl⟩

set_option maxRecDepth 20000 in
set_option maxHeartbeats 200000 in
theorem x_remember2 {j q : Nat} (hnx : nx = nI j) (hj : j < 10) (hkk : kk = nI q) (hq : q ≤ 10) (h9 : ¬ j + 1 < 10) : CD g 4 mX0_remember [.ref 34, .ref 27] (W1 scr tl lt lc rd sw P D S kk nx ring bu im kept tb tr tc ts) none (W1 scr tl lt lc rd sw P D S (nI (min (q + 1) 10)) (nI (nj j)) (updS ring j S) bu im kept tb tr tc ts) := by
  refine C.of (by decide +kernel) (by simp [Value.category]) (Nat.le_of_ble_eq_true rfl) ?_
  change J g mX0_remember 4 0 0 _ (W1 scr tl lt lc rd sw P D S kk nx ring bu im kept tb tr tc ts) 0 [some (.ref 34), some (.ref 27)] []
  rw [hnx, hkk]
  refine j_aload_n (pc := 0) dX0_remember_0 rfl ?_
  refine j_getf (pc := 1) dX0_remember_1 fl_X0_14 (by apply lkE; (with_reducible first | exact lkX_1 | exact lkX_27 | exact lkX_p | exact lkX_34 | exact lkX_35 | exact lkX_107 | exact lkX_125 | exact lkX_127 | exact lkX_28 | exact lkX_30 | exact lkX_32 | exact lkX_p1 | exact lkX_p3 | exact lkX_p5 | exact lkX_p7 | exact lkX_p9 | exact lkX_2 | exact lkX_109 | exact lkX_4 | exact lkX_d); rfl) rfl ?_
  refine j_aload_n (pc := 4) dX0_remember_4 rfl ?_
  refine j_getf (pc := 5) dX0_remember_5 fl_X0_20 (by apply lkE; (with_reducible first | exact lkX_1 | exact lkX_27 | exact lkX_p | exact lkX_34 | exact lkX_35 | exact lkX_107 | exact lkX_125 | exact lkX_127 | exact lkX_28 | exact lkX_30 | exact lkX_32 | exact lkX_p1 | exact lkX_p3 | exact lkX_p5 | exact lkX_p7 | exact lkX_p9 | exact lkX_2 | exact lkX_109 | exact lkX_4 | exact lkX_d); rfl) rfl ?_
  refine j_aload_n (pc := 8) dX0_remember_8 rfl ?_
  refine j_v2n (pc := 9) (ci := 5) dX0_remember_9 mc_X5_put ml_X0_24 im_X5_put se_X5_put rfl rfl (by apply lkE; (with_reducible first | exact lkX_1 | exact lkX_27 | exact lkX_p | exact lkX_34 | exact lkX_35 | exact lkX_107 | exact lkX_125 | exact lkX_127 | exact lkX_28 | exact lkX_30 | exact lkX_32 | exact lkX_p1 | exact lkX_p3 | exact lkX_p5 | exact lkX_p7 | exact lkX_p9 | exact lkX_2 | exact lkX_109 | exact lkX_4 | exact lkX_d); rfl) (by omega) (CD.heap (ring_set hj) (c_shPut (j := j) lkX_35 lkX_36 (show ringC.2.length = 10 from rfl) (by decide) hj (ring_v hj) (ring_at hj) ⟨lkX_27, lkX_28, lkX_29, lkX_30, lkX_31, lkX_32, lkX_33⟩ (by omega))) (Nat.le_of_ble_eq_true rfl) ?_
  refine j_aload_n (pc := 12) dX0_remember_12 rfl ?_
  refine j_aload_n (pc := 13) dX0_remember_13 rfl ?_
  refine j_getf (pc := 14) dX0_remember_14 fl_X0_20 (by apply lkE; (with_reducible first | exact lkX_1 | exact lkX_27 | exact lkX_p | exact lkX_34 | exact lkX_35 | exact lkX_107 | exact lkX_125 | exact lkX_127 | exact lkX_28 | exact lkX_30 | exact lkX_32 | exact lkX_p1 | exact lkX_p3 | exact lkX_p5 | exact lkX_p7 | exact lkX_p9 | exact lkX_2 | exact lkX_109 | exact lkX_4 | exact lkX_d); rfl) rfl ?_
  refine j_iconst (pc := 17) dX0_remember_17 kc_1 ?_
  refine j_iadd (pc := 18) dX0_remember_18 ?_
  refine j_bipush (pc := 19) dX0_remember_19 kb_10 ?_
  refine j_icmp_ge (pc := 21) (tgt := 33) dX0_remember_21 rfl (fun _ => ?_) (fun zc21 => absurd (by rw [nI_s1]; exact nI_le (a := 10) (b := j + 1) (by omega) (by omega)) zc21)
  refine j_iconst (pc := 33) dX0_remember_33 kc_0 ?_
  rw [show (.int 0 : Value) = .int (nI (nj j)) by rw [nj, if_neg h9]; rfl]
  refine j_putf (pc := 34) dX0_remember_34 fl_X0_20 (jfit_i _) (by apply lkE; (with_reducible first | exact lkX_1 | exact lkX_27 | exact lkX_p | exact lkX_34 | exact lkX_35 | exact lkX_107 | exact lkX_125 | exact lkX_127 | exact lkX_28 | exact lkX_30 | exact lkX_32 | exact lkX_p1 | exact lkX_p3 | exact lkX_p5 | exact lkX_p7 | exact lkX_p9 | exact lkX_2 | exact lkX_109 | exact lkX_4 | exact lkX_d); rfl) upX_34 ?_
  refine j_aload_n (pc := 37) dX0_remember_37 rfl ?_
  refine j_aload_n (pc := 38) dX0_remember_38 rfl ?_
  refine j_getf (pc := 39) dX0_remember_39 fl_X0_28 (by apply lkE; (with_reducible first | exact lkX_1 | exact lkX_27 | exact lkX_p | exact lkX_34 | exact lkX_35 | exact lkX_107 | exact lkX_125 | exact lkX_127 | exact lkX_28 | exact lkX_30 | exact lkX_32 | exact lkX_p1 | exact lkX_p3 | exact lkX_p5 | exact lkX_p7 | exact lkX_p9 | exact lkX_2 | exact lkX_109 | exact lkX_4 | exact lkX_d); rfl) rfl ?_
  refine j_iconst (pc := 42) dX0_remember_42 kc_1 ?_
  refine j_iadd (pc := 43) dX0_remember_43 ?_
  refine j_bipush (pc := 44) dX0_remember_44 kb_10 ?_
  refine j_min (pc := 46) dX0_remember_46 ml_X0_31 (by omega) (Nat.le_of_ble_eq_true rfl) ?_
  rw [nI_s1, show (10 : Int32) = nI 10 from rfl, imin_nI (by omega) (by omega)]
  refine j_putf (pc := 49) dX0_remember_49 fl_X0_28 (jfit_i _) (by apply lkE; (with_reducible first | exact lkX_1 | exact lkX_27 | exact lkX_p | exact lkX_34 | exact lkX_35 | exact lkX_107 | exact lkX_125 | exact lkX_127 | exact lkX_28 | exact lkX_30 | exact lkX_32 | exact lkX_p1 | exact lkX_p3 | exact lkX_p5 | exact lkX_p7 | exact lkX_p9 | exact lkX_2 | exact lkX_109 | exact lkX_4 | exact lkX_d); rfl) upX_34 ?_
  refine j_return (pc := 52) dX0_remember_52 rfl ?_
  exact ⟨rfl, rfl⟩

theorem x_remember {j q : Nat} (hnx : nx = nI j) (hj : j < 10) (hkk : kk = nI q) (hq : q ≤ 10) : CD g 4 mX0_remember [.ref 34, .ref 27] (W1 scr tl lt lc rd sw P D S kk nx ring bu im kept tb tr tc ts) none (W1 scr tl lt lc rd sw P D S (nI (min (q + 1) 10)) (nI (nj j)) (updS ring j S) bu im kept tb tr tc ts) := by
  by_cases h9 : j + 1 < 10
  · exact x_remember1 hnx hj hkk hq h9
  · exact x_remember2 hnx hj hkk hq h9
set_option maxRecDepth 20000 in
set_option maxHeartbeats 200000 in
theorem x_recall1 {j q : Nat} (hnx : nx = nI j) (hj : j < 10) (hkk : kk = nI (q + 1)) (hq : q < 10) (h0 : 0 < j) : CD g 4 mX0_recall [.ref 34, .ref 27] (W1 scr tl lt lc rd sw P D S kk nx ring bu im kept tb tr tc ts) none (W1 scr tl lt lc rd sw P D (ring (pj j)) (nI q) (nI (pj j)) ring bu im kept tb tr tc ts) := by
  refine C.of (by decide +kernel) (by simp [Value.category]) (Nat.le_of_ble_eq_true rfl) ?_
  change J g mX0_recall 4 0 0 _ (W1 scr tl lt lc rd sw P D S kk nx ring bu im kept tb tr tc ts) 0 [some (.ref 34), some (.ref 27)] []
  rw [hnx, hkk]
  refine j_aload_n (pc := 0) dX0_recall_0 rfl ?_
  refine j_getf (pc := 1) dX0_recall_1 fl_X0_28 (by apply lkE; (with_reducible first | exact lkX_1 | exact lkX_27 | exact lkX_p | exact lkX_34 | exact lkX_35 | exact lkX_107 | exact lkX_125 | exact lkX_127 | exact lkX_28 | exact lkX_30 | exact lkX_32 | exact lkX_p1 | exact lkX_p3 | exact lkX_p5 | exact lkX_p7 | exact lkX_p9 | exact lkX_2 | exact lkX_109 | exact lkX_4 | exact lkX_d); rfl) rfl ?_
  refine j_if_le (pc := 4) (tgt := 51) dX0_recall_4 rfl (fun zc4 => absurd zc4 (nI_nle (n := q + 1) (by omega) (by omega))) (fun _ => ?_)
  refine j_aload_n (pc := 7) dX0_recall_7 rfl ?_
  refine j_aload_n (pc := 8) dX0_recall_8 rfl ?_
  refine j_getf (pc := 9) dX0_recall_9 fl_X0_20 (by apply lkE; (with_reducible first | exact lkX_1 | exact lkX_27 | exact lkX_p | exact lkX_34 | exact lkX_35 | exact lkX_107 | exact lkX_125 | exact lkX_127 | exact lkX_28 | exact lkX_30 | exact lkX_32 | exact lkX_p1 | exact lkX_p3 | exact lkX_p5 | exact lkX_p7 | exact lkX_p9 | exact lkX_2 | exact lkX_109 | exact lkX_4 | exact lkX_d); rfl) rfl ?_
  refine j_if_le (pc := 12) (tgt := 24) dX0_recall_12 rfl (fun zc12 => absurd zc12 (nI_nle (n := j) (by omega) (by omega))) (fun _ => ?_)
  refine j_aload_n (pc := 15) dX0_recall_15 rfl ?_
  refine j_getf (pc := 16) dX0_recall_16 fl_X0_20 (by apply lkE; (with_reducible first | exact lkX_1 | exact lkX_27 | exact lkX_p | exact lkX_34 | exact lkX_35 | exact lkX_107 | exact lkX_125 | exact lkX_127 | exact lkX_28 | exact lkX_30 | exact lkX_32 | exact lkX_p1 | exact lkX_p3 | exact lkX_p5 | exact lkX_p7 | exact lkX_p9 | exact lkX_2 | exact lkX_109 | exact lkX_4 | exact lkX_d); rfl) rfl ?_
  refine j_iconst (pc := 19) dX0_recall_19 kc_1 ?_
  refine j_isub (pc := 20) dX0_recall_20 ?_
  refine j_goto (pc := 21) (tgt := 26) dX0_recall_21 rfl ?_
  rw [show nI j - 1 = nI (pj j) by rw [pj, if_pos h0, show nI j = nI (j - 1 + 1) by rw [show j - 1 + 1 = j by omega], nI_pred]]
  refine j_putf (pc := 26) dX0_recall_26 fl_X0_20 (jfit_i _) (by apply lkE; (with_reducible first | exact lkX_1 | exact lkX_27 | exact lkX_p | exact lkX_34 | exact lkX_35 | exact lkX_107 | exact lkX_125 | exact lkX_127 | exact lkX_28 | exact lkX_30 | exact lkX_32 | exact lkX_p1 | exact lkX_p3 | exact lkX_p5 | exact lkX_p7 | exact lkX_p9 | exact lkX_2 | exact lkX_109 | exact lkX_4 | exact lkX_d); rfl) upX_34 ?_
  refine j_aload_n (pc := 29) dX0_recall_29 rfl ?_
  refine j_getf (pc := 30) dX0_recall_30 fl_X0_14 (by apply lkE; (with_reducible first | exact lkX_1 | exact lkX_27 | exact lkX_p | exact lkX_34 | exact lkX_35 | exact lkX_107 | exact lkX_125 | exact lkX_127 | exact lkX_28 | exact lkX_30 | exact lkX_32 | exact lkX_p1 | exact lkX_p3 | exact lkX_p5 | exact lkX_p7 | exact lkX_p9 | exact lkX_2 | exact lkX_109 | exact lkX_4 | exact lkX_d); rfl) rfl ?_
  refine j_aload_n (pc := 33) dX0_recall_33 rfl ?_
  refine j_getf (pc := 34) dX0_recall_34 fl_X0_20 (by apply lkE; (with_reducible first | exact lkX_1 | exact lkX_27 | exact lkX_p | exact lkX_34 | exact lkX_35 | exact lkX_107 | exact lkX_125 | exact lkX_127 | exact lkX_28 | exact lkX_30 | exact lkX_32 | exact lkX_p1 | exact lkX_p3 | exact lkX_p5 | exact lkX_p7 | exact lkX_p9 | exact lkX_2 | exact lkX_109 | exact lkX_4 | exact lkX_d); rfl) rfl ?_
  refine j_aload_n (pc := 37) dX0_recall_37 rfl ?_
  refine j_v2n (pc := 38) (ci := 5) dX0_recall_38 mc_X5_copyTo ml_X0_37 im_X5_copyTo se_X5_copyTo rfl rfl (by apply lkE; (with_reducible first | exact lkX_1 | exact lkX_27 | exact lkX_p | exact lkX_34 | exact lkX_35 | exact lkX_107 | exact lkX_125 | exact lkX_127 | exact lkX_28 | exact lkX_30 | exact lkX_32 | exact lkX_p1 | exact lkX_p3 | exact lkX_p5 | exact lkX_p7 | exact lkX_p9 | exact lkX_2 | exact lkX_109 | exact lkX_4 | exact lkX_d); rfl) (by omega) (CD.heap sc_set (c_shGet (j := pj j) lkX_35 lkX_36 (show ringC.2.length = 10 from rfl) (by decide) (pj_lt hj) (ring_v (pj_lt hj)) (ring_at (pj_lt hj)) ⟨lkX_27, lkX_28, lkX_29, lkX_30, lkX_31, lkX_32, lkX_33⟩ (by omega))) (Nat.le_of_ble_eq_true rfl) ?_
  refine j_aload_n (pc := 41) dX0_recall_41 rfl ?_
  refine j_dup (pc := 42) dX0_recall_42 rfl ?_
  refine j_getf (pc := 43) dX0_recall_43 fl_X0_28 (by apply lkE; (with_reducible first | exact lkX_1 | exact lkX_27 | exact lkX_p | exact lkX_34 | exact lkX_35 | exact lkX_107 | exact lkX_125 | exact lkX_127 | exact lkX_28 | exact lkX_30 | exact lkX_32 | exact lkX_p1 | exact lkX_p3 | exact lkX_p5 | exact lkX_p7 | exact lkX_p9 | exact lkX_2 | exact lkX_109 | exact lkX_4 | exact lkX_d); rfl) rfl ?_
  refine j_iconst (pc := 46) dX0_recall_46 kc_1 ?_
  refine j_isub (pc := 47) dX0_recall_47 ?_
  rw [show nI (q + 1) - 1 = nI q from nI_pred q]
  refine j_putf (pc := 48) dX0_recall_48 fl_X0_28 (jfit_i _) (by apply lkE; (with_reducible first | exact lkX_1 | exact lkX_27 | exact lkX_p | exact lkX_34 | exact lkX_35 | exact lkX_107 | exact lkX_125 | exact lkX_127 | exact lkX_28 | exact lkX_30 | exact lkX_32 | exact lkX_p1 | exact lkX_p3 | exact lkX_p5 | exact lkX_p7 | exact lkX_p9 | exact lkX_2 | exact lkX_109 | exact lkX_4 | exact lkX_d); rfl) upX_34 ?_
  refine j_return (pc := 51) dX0_recall_51 rfl ?_
  exact ⟨rfl, rfl⟩

set_option maxRecDepth 20000 in
set_option maxHeartbeats 200000 in
theorem x_recall2 {j q : Nat} (hnx : nx = nI j) (hj : j < 10) (hkk : kk = nI (q + 1)) (hq : q < 10) (h0 : ¬ 0 < j) : CD g 4 mX0_recall [.ref 34, .ref 27] (W1 scr tl lt lc rd sw P D S kk nx ring bu im kept tb tr tc ts) none (W1 scr tl lt lc rd sw P D (ring (pj j)) (nI q) (nI (pj j)) ring bu im kept tb tr tc ts) := by
  refine C.of (by decide +kernel) (by simp [Value.category]) (Nat.le_of_ble_eq_true rfl) ?_
  change J g mX0_recall 4 0 0 _ (W1 scr tl lt lc rd sw P D S kk nx ring bu im kept tb tr tc ts) 0 [some (.ref 34), some (.ref 27)] []
  rw [hnx, hkk]
  refine j_aload_n (pc := 0) dX0_recall_0 rfl ?_
  refine j_getf (pc := 1) dX0_recall_1 fl_X0_28 (by apply lkE; (with_reducible first | exact lkX_1 | exact lkX_27 | exact lkX_p | exact lkX_34 | exact lkX_35 | exact lkX_107 | exact lkX_125 | exact lkX_127 | exact lkX_28 | exact lkX_30 | exact lkX_32 | exact lkX_p1 | exact lkX_p3 | exact lkX_p5 | exact lkX_p7 | exact lkX_p9 | exact lkX_2 | exact lkX_109 | exact lkX_4 | exact lkX_d); rfl) rfl ?_
  refine j_if_le (pc := 4) (tgt := 51) dX0_recall_4 rfl (fun zc4 => absurd zc4 (nI_nle (n := q + 1) (by omega) (by omega))) (fun _ => ?_)
  refine j_aload_n (pc := 7) dX0_recall_7 rfl ?_
  refine j_aload_n (pc := 8) dX0_recall_8 rfl ?_
  refine j_getf (pc := 9) dX0_recall_9 fl_X0_20 (by apply lkE; (with_reducible first | exact lkX_1 | exact lkX_27 | exact lkX_p | exact lkX_34 | exact lkX_35 | exact lkX_107 | exact lkX_125 | exact lkX_127 | exact lkX_28 | exact lkX_30 | exact lkX_32 | exact lkX_p1 | exact lkX_p3 | exact lkX_p5 | exact lkX_p7 | exact lkX_p9 | exact lkX_2 | exact lkX_109 | exact lkX_4 | exact lkX_d); rfl) rfl ?_
  refine j_if_le (pc := 12) (tgt := 24) dX0_recall_12 rfl (fun _ => ?_) (fun zc12 => absurd (by rw [show j = 0 by omega]; decide) zc12)
  refine j_bipush (pc := 24) dX0_recall_24 kb_9 ?_
  rw [show (.int 9 : Value) = .int (nI (pj j)) by rw [pj, if_neg h0]; rfl]
  refine j_putf (pc := 26) dX0_recall_26 fl_X0_20 (jfit_i _) (by apply lkE; (with_reducible first | exact lkX_1 | exact lkX_27 | exact lkX_p | exact lkX_34 | exact lkX_35 | exact lkX_107 | exact lkX_125 | exact lkX_127 | exact lkX_28 | exact lkX_30 | exact lkX_32 | exact lkX_p1 | exact lkX_p3 | exact lkX_p5 | exact lkX_p7 | exact lkX_p9 | exact lkX_2 | exact lkX_109 | exact lkX_4 | exact lkX_d); rfl) upX_34 ?_
  refine j_aload_n (pc := 29) dX0_recall_29 rfl ?_
  refine j_getf (pc := 30) dX0_recall_30 fl_X0_14 (by apply lkE; (with_reducible first | exact lkX_1 | exact lkX_27 | exact lkX_p | exact lkX_34 | exact lkX_35 | exact lkX_107 | exact lkX_125 | exact lkX_127 | exact lkX_28 | exact lkX_30 | exact lkX_32 | exact lkX_p1 | exact lkX_p3 | exact lkX_p5 | exact lkX_p7 | exact lkX_p9 | exact lkX_2 | exact lkX_109 | exact lkX_4 | exact lkX_d); rfl) rfl ?_
  refine j_aload_n (pc := 33) dX0_recall_33 rfl ?_
  refine j_getf (pc := 34) dX0_recall_34 fl_X0_20 (by apply lkE; (with_reducible first | exact lkX_1 | exact lkX_27 | exact lkX_p | exact lkX_34 | exact lkX_35 | exact lkX_107 | exact lkX_125 | exact lkX_127 | exact lkX_28 | exact lkX_30 | exact lkX_32 | exact lkX_p1 | exact lkX_p3 | exact lkX_p5 | exact lkX_p7 | exact lkX_p9 | exact lkX_2 | exact lkX_109 | exact lkX_4 | exact lkX_d); rfl) rfl ?_
  refine j_aload_n (pc := 37) dX0_recall_37 rfl ?_
  refine j_v2n (pc := 38) (ci := 5) dX0_recall_38 mc_X5_copyTo ml_X0_37 im_X5_copyTo se_X5_copyTo rfl rfl (by apply lkE; (with_reducible first | exact lkX_1 | exact lkX_27 | exact lkX_p | exact lkX_34 | exact lkX_35 | exact lkX_107 | exact lkX_125 | exact lkX_127 | exact lkX_28 | exact lkX_30 | exact lkX_32 | exact lkX_p1 | exact lkX_p3 | exact lkX_p5 | exact lkX_p7 | exact lkX_p9 | exact lkX_2 | exact lkX_109 | exact lkX_4 | exact lkX_d); rfl) (by omega) (CD.heap sc_set (c_shGet (j := pj j) lkX_35 lkX_36 (show ringC.2.length = 10 from rfl) (by decide) (pj_lt hj) (ring_v (pj_lt hj)) (ring_at (pj_lt hj)) ⟨lkX_27, lkX_28, lkX_29, lkX_30, lkX_31, lkX_32, lkX_33⟩ (by omega))) (Nat.le_of_ble_eq_true rfl) ?_
  refine j_aload_n (pc := 41) dX0_recall_41 rfl ?_
  refine j_dup (pc := 42) dX0_recall_42 rfl ?_
  refine j_getf (pc := 43) dX0_recall_43 fl_X0_28 (by apply lkE; (with_reducible first | exact lkX_1 | exact lkX_27 | exact lkX_p | exact lkX_34 | exact lkX_35 | exact lkX_107 | exact lkX_125 | exact lkX_127 | exact lkX_28 | exact lkX_30 | exact lkX_32 | exact lkX_p1 | exact lkX_p3 | exact lkX_p5 | exact lkX_p7 | exact lkX_p9 | exact lkX_2 | exact lkX_109 | exact lkX_4 | exact lkX_d); rfl) rfl ?_
  refine j_iconst (pc := 46) dX0_recall_46 kc_1 ?_
  refine j_isub (pc := 47) dX0_recall_47 ?_
  rw [show nI (q + 1) - 1 = nI q from nI_pred q]
  refine j_putf (pc := 48) dX0_recall_48 fl_X0_28 (jfit_i _) (by apply lkE; (with_reducible first | exact lkX_1 | exact lkX_27 | exact lkX_p | exact lkX_34 | exact lkX_35 | exact lkX_107 | exact lkX_125 | exact lkX_127 | exact lkX_28 | exact lkX_30 | exact lkX_32 | exact lkX_p1 | exact lkX_p3 | exact lkX_p5 | exact lkX_p7 | exact lkX_p9 | exact lkX_2 | exact lkX_109 | exact lkX_4 | exact lkX_d); rfl) upX_34 ?_
  refine j_return (pc := 51) dX0_recall_51 rfl ?_
  exact ⟨rfl, rfl⟩

theorem x_recall {j q : Nat} (hnx : nx = nI j) (hj : j < 10) (hkk : kk = nI (q + 1)) (hq : q < 10) : CD g 4 mX0_recall [.ref 34, .ref 27] (W1 scr tl lt lc rd sw P D S kk nx ring bu im kept tb tr tc ts) none (W1 scr tl lt lc rd sw P D (ring (pj j)) (nI q) (nI (pj j)) ring bu im kept tb tr tc ts) := by
  by_cases h0 : 0 < j
  · exact x_recall1 hnx hj hkk hq h0
  · exact x_recall2 hnx hj hkk hq h0
set_option maxRecDepth 20000 in
set_option maxHeartbeats 200000 in
theorem x_type {c : Int32} (h1 : jin c 0 255 = false → Q (some (.int (-1))) (W1 scr tl lt lc rd sw P D S kk nx ring bu im kept tb tr tc ts)) (h2 : jin c 0 255 = true → ¬ lc < 150 → Q (some (.int (-3))) (W1 scr tl lt lc rd sw P D S kk nx ring bu im kept tb tr tc ts)) (h3 : jin c 0 255 = true → lc < 150 → Q (some (.int (lc + 1))) (W1 scr tl (rPut 150 lt lc c) (lc + 1) rd sw P D S kk nx ring bu im kept tb tr tc ts)) : C g 1 0 0 mX6_type [.ref 1, .int c] (W1 scr tl lt lc rd sw P D S kk nx ring bu im kept tb tr tc ts) Q := by
  refine C.of (by decide +kernel) (by simp [Value.category]) (Nat.le_of_ble_eq_true rfl) ?_
  change J g mX6_type 1 0 0 _ (W1 scr tl lt lc rd sw P D S kk nx ring bu im kept tb tr tc ts) 0 [some (.ref 1), some (.int c)] []
  refine j_iload_n (pc := 0) dX6_type_0 rfl ?_
  refine j_iconst (pc := 1) dX6_type_1 kc_0 ?_
  refine j_sipush (pc := 2) dX6_type_2 ks_255 ?_
  refine j_s3 (pc := 5) dX6_type_5 mc_X6_isWithin ml_X6_71 sm_X6_isWithin (by omega) (c_isWithin) (Nat.le_of_ble_eq_true rfl) ?_
  refine j_bne (pc := 8) (tgt := 13) dX6_type_8 rfl (fun zc8 => ?_) (fun zc8 => ?_)
  · refine j_aload_n (pc := 13) dX6_type_13 rfl ?_
    refine j_getf (pc := 14) dX6_type_14 fl_X6_75 (by apply lkE; (with_reducible first | exact lkX_1 | exact lkX_27 | exact lkX_p | exact lkX_34 | exact lkX_35 | exact lkX_107 | exact lkX_125 | exact lkX_127 | exact lkX_28 | exact lkX_30 | exact lkX_32 | exact lkX_p1 | exact lkX_p3 | exact lkX_p5 | exact lkX_p7 | exact lkX_p9 | exact lkX_2 | exact lkX_109 | exact lkX_4 | exact lkX_d); rfl) rfl ?_
    refine j_sipush (pc := 17) dX6_type_17 ks_150 ?_
    refine j_icmp_lt (pc := 20) (tgt := 26) dX6_type_20 rfl (fun zc20 => ?_) (fun zc20 => ?_)
    · refine j_aload_n (pc := 26) dX6_type_26 rfl ?_
      refine j_getf (pc := 27) dX6_type_27 fl_X6_14 (by apply lkE; (with_reducible first | exact lkX_1 | exact lkX_27 | exact lkX_p | exact lkX_34 | exact lkX_35 | exact lkX_107 | exact lkX_125 | exact lkX_127 | exact lkX_28 | exact lkX_30 | exact lkX_32 | exact lkX_p1 | exact lkX_p3 | exact lkX_p5 | exact lkX_p7 | exact lkX_p9 | exact lkX_2 | exact lkX_109 | exact lkX_4 | exact lkX_d); rfl) rfl ?_
      refine j_aload_n (pc := 30) dX6_type_30 rfl ?_
      refine j_getf (pc := 31) dX6_type_31 fl_X6_75 (by apply lkE; (with_reducible first | exact lkX_1 | exact lkX_27 | exact lkX_p | exact lkX_34 | exact lkX_35 | exact lkX_107 | exact lkX_125 | exact lkX_127 | exact lkX_28 | exact lkX_30 | exact lkX_32 | exact lkX_p1 | exact lkX_p3 | exact lkX_p5 | exact lkX_p7 | exact lkX_p9 | exact lkX_2 | exact lkX_109 | exact lkX_4 | exact lkX_d); rfl) rfl ?_
      refine j_iload_n (pc := 34) dX6_type_34 rfl ?_
      refine j_v2n (pc := 35) (ci := 3) dX6_type_35 mc_X3_put ml_X6_79 im_X3_put se_X3_put rfl rfl (by apply lkE; (with_reducible first | exact lkX_1 | exact lkX_27 | exact lkX_p | exact lkX_34 | exact lkX_35 | exact lkX_107 | exact lkX_125 | exact lkX_127 | exact lkX_28 | exact lkX_30 | exact lkX_32 | exact lkX_p1 | exact lkX_p3 | exact lkX_p5 | exact lkX_p7 | exact lkX_p9 | exact lkX_2 | exact lkX_109 | exact lkX_4 | exact lkX_d); rfl) (by omega) (CD.heap upX_3 (c_put (n := 150) (by decide) lkX_2 lkX_3)) (Nat.le_of_ble_eq_true rfl) ?_
      refine j_aload_n (pc := 38) dX6_type_38 rfl ?_
      refine j_dup (pc := 39) dX6_type_39 rfl ?_
      refine j_getf (pc := 40) dX6_type_40 fl_X6_75 (by apply lkE; (with_reducible first | exact lkX_1 | exact lkX_27 | exact lkX_p | exact lkX_34 | exact lkX_35 | exact lkX_107 | exact lkX_125 | exact lkX_127 | exact lkX_28 | exact lkX_30 | exact lkX_32 | exact lkX_p1 | exact lkX_p3 | exact lkX_p5 | exact lkX_p7 | exact lkX_p9 | exact lkX_2 | exact lkX_109 | exact lkX_4 | exact lkX_d); rfl) rfl ?_
      refine j_iconst (pc := 43) dX6_type_43 kc_1 ?_
      refine j_iadd (pc := 44) dX6_type_44 ?_
      refine j_putf (pc := 45) dX6_type_45 fl_X6_75 (jfit_i _) (by apply lkE; (with_reducible first | exact lkX_1 | exact lkX_27 | exact lkX_p | exact lkX_34 | exact lkX_35 | exact lkX_107 | exact lkX_125 | exact lkX_127 | exact lkX_28 | exact lkX_30 | exact lkX_32 | exact lkX_p1 | exact lkX_p3 | exact lkX_p5 | exact lkX_p7 | exact lkX_p9 | exact lkX_2 | exact lkX_109 | exact lkX_4 | exact lkX_d); rfl) upX_1 ?_
      refine j_aload_n (pc := 48) dX6_type_48 rfl ?_
      refine j_getf (pc := 49) dX6_type_49 fl_X6_75 (by apply lkE; (with_reducible first | exact lkX_1 | exact lkX_27 | exact lkX_p | exact lkX_34 | exact lkX_35 | exact lkX_107 | exact lkX_125 | exact lkX_127 | exact lkX_28 | exact lkX_30 | exact lkX_32 | exact lkX_p1 | exact lkX_p3 | exact lkX_p5 | exact lkX_p7 | exact lkX_p9 | exact lkX_2 | exact lkX_109 | exact lkX_4 | exact lkX_d); rfl) rfl ?_
      refine j_ireturn (pc := 52) dX6_type_52 rfl ?_
      exact h3 zc8 zc20
    · refine j_bipush (pc := 23) dX6_type_23 kb_m3 ?_
      refine j_ireturn (pc := 25) dX6_type_25 rfl ?_
      exact h2 zc8 zc20
  · refine j_iconst (pc := 11) dX6_type_11 kc_m1 ?_
    refine j_ireturn (pc := 12) dX6_type_12 rfl ?_
    exact h1 zc8

set_option maxRecDepth 20000 in
set_option maxHeartbeats 200000 in
theorem x_clear  (h1 : Q (some (.int lc)) (W1 scr tl lt (0) rd sw P D S kk nx ring bu im kept tb tr tc ts)) : C g 0 0 0 mX6_clear [.ref 1] (W1 scr tl lt lc rd sw P D S kk nx ring bu im kept tb tr tc ts) Q := by
  refine C.of (by decide +kernel) (by simp [Value.category]) (Nat.le_of_ble_eq_true rfl) ?_
  change J g mX6_clear 0 0 0 _ (W1 scr tl lt lc rd sw P D S kk nx ring bu im kept tb tr tc ts) 0 [some (.ref 1), none] []
  refine j_aload_n (pc := 0) dX6_clear_0 rfl ?_
  refine j_getf (pc := 1) dX6_clear_1 fl_X6_75 (by apply lkE; (with_reducible first | exact lkX_1 | exact lkX_27 | exact lkX_p | exact lkX_34 | exact lkX_35 | exact lkX_107 | exact lkX_125 | exact lkX_127 | exact lkX_28 | exact lkX_30 | exact lkX_32 | exact lkX_p1 | exact lkX_p3 | exact lkX_p5 | exact lkX_p7 | exact lkX_p9 | exact lkX_2 | exact lkX_109 | exact lkX_4 | exact lkX_d); rfl) rfl ?_
  refine j_istore_n (pc := 4) dX6_clear_4 rfl (Nat.le_of_ble_eq_true rfl) rfl ?_
  refine j_aload_n (pc := 5) dX6_clear_5 rfl ?_
  refine j_iconst (pc := 6) dX6_clear_6 kc_0 ?_
  refine j_putf (pc := 7) dX6_clear_7 fl_X6_75 (jfit_i _) (by apply lkE; (with_reducible first | exact lkX_1 | exact lkX_27 | exact lkX_p | exact lkX_34 | exact lkX_35 | exact lkX_107 | exact lkX_125 | exact lkX_127 | exact lkX_28 | exact lkX_30 | exact lkX_32 | exact lkX_p1 | exact lkX_p3 | exact lkX_p5 | exact lkX_p7 | exact lkX_p9 | exact lkX_2 | exact lkX_109 | exact lkX_4 | exact lkX_d); rfl) upX_1 ?_
  refine j_iload_n (pc := 10) dX6_clear_10 rfl ?_
  refine j_ireturn (pc := 11) dX6_clear_11 rfl ?_
  exact h1

theorem jin01 {c : Int32} (h0 : ¬ c = 0) (h1 : ¬ c = 1) : jin c 0 1 = false := by
  cases e : jin c 0 1 with
  | false => rfl
  | true =>
    obtain ⟨j, hj, rfl⟩ := jin_nat (n := 1) (by decide) e
    have : j = 0 ∨ j = 1 := by omega
    rcases this with rfl | rfl
    · exact absurd rfl h0
    · exact absurd rfl h1
set_option maxRecDepth 20000 in
set_option maxHeartbeats 200000 in
theorem x_deed {i c : Int32} {n : Nat} (hdd : P.2.2.1 = nI n) (hn : n ≤ 6) (h1 : (jlt i P.2.1 && jin c 0 1) = false → Q (some (.int (-1000000))) (W1 scr tl lt lc rd sw P D S kk nx ring bu im kept tb tr tc ts)) (h2 : jlt i P.2.1 = true → c = 0 → Q (some (.int (rAt 6 P.2.2.2.2.2.2.1 i))) (W1 scr tl lt lc rd sw P D S kk nx ring bu im kept tb tr tc ts)) (h3 : jlt i P.2.1 = true → c = 1 → Q (some (.int (iter (wdStep S i) n 0 0))) (W1 scr tl lt lc rd sw P D S kk nx ring bu im kept tb tr tc ts)) : C g 4 0 0 mX6_deed [.ref 1, .int i, .int c] (W1 scr tl lt lc rd sw P D S kk nx ring bu im kept tb tr tc ts) Q := by
  refine C.of (by decide +kernel) (by simp [Value.category]) (Nat.le_of_ble_eq_true rfl) ?_
  change J g mX6_deed 4 0 0 _ (W1 scr tl lt lc rd sw P D S kk nx ring bu im kept tb tr tc ts) 0 [some (.ref 1), some (.int i), some (.int c)] []
  refine j_aload_n (pc := 0) dX6_deed_0 rfl ?_
  refine j_getf (pc := 1) dX6_deed_1 fl_X6_30 (by apply lkE; (with_reducible first | exact lkX_1 | exact lkX_27 | exact lkX_p | exact lkX_34 | exact lkX_35 | exact lkX_107 | exact lkX_125 | exact lkX_127 | exact lkX_28 | exact lkX_30 | exact lkX_32 | exact lkX_p1 | exact lkX_p3 | exact lkX_p5 | exact lkX_p7 | exact lkX_p9 | exact lkX_2 | exact lkX_109 | exact lkX_4 | exact lkX_d); rfl) rfl ?_
  refine j_iload_n (pc := 4) dX6_deed_4 rfl ?_
  refine j_v1 (pc := 5) (ci := 1) dX6_deed_5 mc_X1_hasDeed ml_X6_99 im_X1_hasDeed se_X1_hasDeed rfl rfl (by apply lkE; (with_reducible first | exact lkX_1 | exact lkX_27 | exact lkX_p | exact lkX_34 | exact lkX_35 | exact lkX_107 | exact lkX_125 | exact lkX_127 | exact lkX_28 | exact lkX_30 | exact lkX_32 | exact lkX_p1 | exact lkX_p3 | exact lkX_p5 | exact lkX_p7 | exact lkX_p9 | exact lkX_2 | exact lkX_109 | exact lkX_4 | exact lkX_d); rfl) (by omega) (c_hasDeed (by apply lkE; (with_reducible first | exact lkX_p); rfl)) (Nat.le_of_ble_eq_true rfl) ?_
  refine j_bne (pc := 8) (tgt := 14) dX6_deed_8 rfl (fun zc8 => ?_) (fun zc8 => ?_)
  · refine j_iload_n (pc := 14) dX6_deed_14 rfl ?_
    by_cases zs15_0 : c = 0
    · refine j_lookup (pc := 15) (off := 25) (tgt := 40) dX6_deed_15 (by decide) (by rw [zs15_0]; decide) rfl ?_
      refine j_aload_n (pc := 40) dX6_deed_40 rfl ?_
      refine j_getf (pc := 41) dX6_deed_41 fl_X6_30 (by apply lkE; (with_reducible first | exact lkX_1 | exact lkX_27 | exact lkX_p | exact lkX_34 | exact lkX_35 | exact lkX_107 | exact lkX_125 | exact lkX_127 | exact lkX_28 | exact lkX_30 | exact lkX_32 | exact lkX_p1 | exact lkX_p3 | exact lkX_p5 | exact lkX_p7 | exact lkX_p9 | exact lkX_2 | exact lkX_109 | exact lkX_4 | exact lkX_d); rfl) rfl ?_
      refine j_getf (pc := 44) dX6_deed_44 fl_X6_104 (by apply lkE; (with_reducible first | exact lkX_1 | exact lkX_27 | exact lkX_p | exact lkX_34 | exact lkX_35 | exact lkX_107 | exact lkX_125 | exact lkX_127 | exact lkX_28 | exact lkX_30 | exact lkX_32 | exact lkX_p1 | exact lkX_p3 | exact lkX_p5 | exact lkX_p7 | exact lkX_p9 | exact lkX_2 | exact lkX_109 | exact lkX_4 | exact lkX_d); rfl) rfl ?_
      refine j_iload_n (pc := 47) dX6_deed_47 rfl ?_
      refine j_v1 (pc := 48) (ci := 3) dX6_deed_48 mc_X3_at ml_X6_107 im_X3_at se_X3_at rfl rfl (by apply lkE; (with_reducible first | exact lkX_1 | exact lkX_27 | exact lkX_p | exact lkX_34 | exact lkX_35 | exact lkX_107 | exact lkX_125 | exact lkX_127 | exact lkX_28 | exact lkX_30 | exact lkX_32 | exact lkX_p1 | exact lkX_p3 | exact lkX_p5 | exact lkX_p7 | exact lkX_p9 | exact lkX_2 | exact lkX_109 | exact lkX_4 | exact lkX_d); rfl) (by omega) (c_at (n := 6) (by decide) lkX_p1 lkX_p2) (Nat.le_of_ble_eq_true rfl) ?_
      refine j_ireturn (pc := 51) dX6_deed_51 rfl ?_
      exact h2 zc8 zs15_0
    by_cases zs15_1 : c = 1
    · refine j_lookup (pc := 15) (off := 37) (tgt := 52) dX6_deed_15 (by decide) (by rw [zs15_1]; decide) rfl ?_
      refine j_aload_n (pc := 52) dX6_deed_52 rfl ?_
      refine j_iload_n (pc := 53) dX6_deed_53 rfl ?_
      refine j_v1 (pc := 54) (ci := 6) dX6_deed_54 mc_X6_whoDid ml_X6_111 im_X6_whoDid se_X6_whoDid rfl rfl (by apply lkE; (with_reducible first | exact lkX_1 | exact lkX_27 | exact lkX_p | exact lkX_34 | exact lkX_35 | exact lkX_107 | exact lkX_125 | exact lkX_127 | exact lkX_28 | exact lkX_30 | exact lkX_32 | exact lkX_p1 | exact lkX_p3 | exact lkX_p5 | exact lkX_p7 | exact lkX_p9 | exact lkX_2 | exact lkX_109 | exact lkX_4 | exact lkX_d); rfl) (by omega) (x_whoDid hdd hn) (Nat.le_of_ble_eq_true rfl) ?_
      refine j_ireturn (pc := 57) dX6_deed_57 rfl ?_
      exact h3 zc8 zs15_1
    refine j_lookup (pc := 15) (off := 43) (tgt := 58) dX6_deed_15 (by decide) (by rw [lv_osw zs15_0 (a := 0) (by decide), lv_osw zs15_1 (a := 1) (by decide)]; rfl) rfl ?_
    refine j_ldc (pc := 58) dX6_deed_58 ck_X6_103 ?_
    refine j_ireturn (pc := 60) dX6_deed_60 rfl ?_
    exact h1 (by rw [jin01 zs15_0 zs15_1, Bool.and_false])
  · refine j_ldc (pc := 11) dX6_deed_11 ck_X6_103 ?_
    refine j_ireturn (pc := 13) dX6_deed_13 rfl ?_
    exact h1 (by simp [*])

def daI0 (P : ParV) (S : ScV) (i c : Int32) : Int32 := if c = 0 then rAt 6 P.2.2.2.2.2.2.2.1 i else if c = 1 then rAt 6 S.2.2.2.1 i else if c = 2 then rAt 6 S.2.2.2.2.1 i else if c = 3 then sumI P.2.2.2.2.2.2.1 (rAt 6 S.2.2.2.2.1 i) 6 0 0 else if c = 4 then ldI P S i else if c = 5 then rAt 6 S.2.2.2.2.2 i else if c = 6 then rdI P S i else if c = 7 then erI P S i else -1000000
set_option maxRecDepth 20000 in
set_option maxHeartbeats 200000 in
theorem x_dead {i c : Int32} (h1 : jlt i P.2.2.1 = false → Q (some (.int (-1000000))) (W1 scr tl lt lc rd sw P D S kk nx ring bu im kept tb tr tc ts)) (h2 : jlt i P.2.2.1 = true → Q (some (.int (daI0 P S i c))) (W1 scr tl lt lc rd sw P D S kk nx ring bu im kept tb tr tc ts)) : C g 5 0 0 mX6_dead [.ref 1, .int i, .int c] (W1 scr tl lt lc rd sw P D S kk nx ring bu im kept tb tr tc ts) Q := by
  refine C.of (by decide +kernel) (by simp [Value.category]) (Nat.le_of_ble_eq_true rfl) ?_
  change J g mX6_dead 5 0 0 _ (W1 scr tl lt lc rd sw P D S kk nx ring bu im kept tb tr tc ts) 0 [some (.ref 1), some (.int i), some (.int c)] []
  refine j_aload_n (pc := 0) dX6_dead_0 rfl ?_
  refine j_getf (pc := 1) dX6_dead_1 fl_X6_30 (by apply lkE; (with_reducible first | exact lkX_1 | exact lkX_27 | exact lkX_p | exact lkX_34 | exact lkX_35 | exact lkX_107 | exact lkX_125 | exact lkX_127 | exact lkX_28 | exact lkX_30 | exact lkX_32 | exact lkX_p1 | exact lkX_p3 | exact lkX_p5 | exact lkX_p7 | exact lkX_p9 | exact lkX_2 | exact lkX_109 | exact lkX_4 | exact lkX_d); rfl) rfl ?_
  refine j_iload_n (pc := 4) dX6_dead_4 rfl ?_
  refine j_v1 (pc := 5) (ci := 1) dX6_dead_5 mc_X1_hasDead ml_X6_114 im_X1_hasDead se_X1_hasDead rfl rfl (by apply lkE; (with_reducible first | exact lkX_1 | exact lkX_27 | exact lkX_p | exact lkX_34 | exact lkX_35 | exact lkX_107 | exact lkX_125 | exact lkX_127 | exact lkX_28 | exact lkX_30 | exact lkX_32 | exact lkX_p1 | exact lkX_p3 | exact lkX_p5 | exact lkX_p7 | exact lkX_p9 | exact lkX_2 | exact lkX_109 | exact lkX_4 | exact lkX_d); rfl) (by omega) (c_hasDead (by apply lkE; (with_reducible first | exact lkX_p); rfl)) (Nat.le_of_ble_eq_true rfl) ?_
  refine j_bne (pc := 8) (tgt := 14) dX6_dead_8 rfl (fun zc8 => ?_) (fun zc8 => ?_)
  · refine j_iload_n (pc := 14) dX6_dead_14 rfl ?_
    by_cases zs15 : (c).toInt < 0 ∨ 7 < (c).toInt
    · refine j_tableOut (pc := 15) (tgt := 148) dX6_dead_15 zs15 rfl ?_
      refine j_ldc (pc := 148) dX6_dead_148 ck_X6_103 ?_
      refine j_ireturn (pc := 150) dX6_dead_150 rfl ?_
      have z := h2 zc8
      rw [daI0, if_neg (show ¬ c = 0 from fun e => by subst e; exact absurd zs15 (by decide)), if_neg (show ¬ c = 1 from fun e => by subst e; exact absurd zs15 (by decide)), if_neg (show ¬ c = 2 from fun e => by subst e; exact absurd zs15 (by decide)), if_neg (show ¬ c = 3 from fun e => by subst e; exact absurd zs15 (by decide)), if_neg (show ¬ c = 4 from fun e => by subst e; exact absurd zs15 (by decide)), if_neg (show ¬ c = 5 from fun e => by subst e; exact absurd zs15 (by decide)), if_neg (show ¬ c = 6 from fun e => by subst e; exact absurd zs15 (by decide)), if_neg (show ¬ c = 7 from fun e => by subst e; exact absurd zs15 (by decide))] at z
      exact z
    by_cases zs15_0 : c = 0
    · refine j_tableIn (pc := 15) (off := 45) (tgt := 60) dX6_dead_15 (by rw [zs15_0]; decide) (by rw [zs15_0]; decide) (by rw [zs15_0]; decide) rfl ?_
      refine j_aload_n (pc := 60) dX6_dead_60 rfl ?_
      refine j_getf (pc := 61) dX6_dead_61 fl_X6_30 (by apply lkE; (with_reducible first | exact lkX_1 | exact lkX_27 | exact lkX_p | exact lkX_34 | exact lkX_35 | exact lkX_107 | exact lkX_125 | exact lkX_127 | exact lkX_28 | exact lkX_30 | exact lkX_32 | exact lkX_p1 | exact lkX_p3 | exact lkX_p5 | exact lkX_p7 | exact lkX_p9 | exact lkX_2 | exact lkX_109 | exact lkX_4 | exact lkX_d); rfl) rfl ?_
      refine j_getf (pc := 64) dX6_dead_64 fl_X6_117 (by apply lkE; (with_reducible first | exact lkX_1 | exact lkX_27 | exact lkX_p | exact lkX_34 | exact lkX_35 | exact lkX_107 | exact lkX_125 | exact lkX_127 | exact lkX_28 | exact lkX_30 | exact lkX_32 | exact lkX_p1 | exact lkX_p3 | exact lkX_p5 | exact lkX_p7 | exact lkX_p9 | exact lkX_2 | exact lkX_109 | exact lkX_4 | exact lkX_d); rfl) rfl ?_
      refine j_iload_n (pc := 67) dX6_dead_67 rfl ?_
      refine j_v1 (pc := 68) (ci := 3) dX6_dead_68 mc_X3_at ml_X6_107 im_X3_at se_X3_at rfl rfl (by apply lkE; (with_reducible first | exact lkX_1 | exact lkX_27 | exact lkX_p | exact lkX_34 | exact lkX_35 | exact lkX_107 | exact lkX_125 | exact lkX_127 | exact lkX_28 | exact lkX_30 | exact lkX_32 | exact lkX_p1 | exact lkX_p3 | exact lkX_p5 | exact lkX_p7 | exact lkX_p9 | exact lkX_2 | exact lkX_109 | exact lkX_4 | exact lkX_d); rfl) (by omega) (c_at (n := 6) (by decide) (by apply lkE; (with_reducible first | exact lkX_p3 | exact lkX_28 | exact lkX_30 | exact lkX_32 | exact lkX_107 | exact lkX_125 | exact lkX_127); rfl) (by apply lkE; (with_reducible first | exact lkX_p4 | exact lkX_29 | exact lkX_31 | exact lkX_33 | exact lkX_108 | exact lkX_126 | exact lkX_128); rfl)) (Nat.le_of_ble_eq_true rfl) ?_
      refine j_ireturn (pc := 71) dX6_dead_71 rfl ?_
      have z := h2 zc8
      subst zs15_0
      rw [daI0, if_pos rfl] at z
      exact z
    by_cases zs15_1 : c = 1
    · refine j_tableIn (pc := 15) (off := 57) (tgt := 72) dX6_dead_15 (by rw [zs15_1]; decide) (by rw [zs15_1]; decide) (by rw [zs15_1]; decide) rfl ?_
      refine j_aload_n (pc := 72) dX6_dead_72 rfl ?_
      refine j_getf (pc := 73) dX6_dead_73 fl_X6_40 (by apply lkE; (with_reducible first | exact lkX_1 | exact lkX_27 | exact lkX_p | exact lkX_34 | exact lkX_35 | exact lkX_107 | exact lkX_125 | exact lkX_127 | exact lkX_28 | exact lkX_30 | exact lkX_32 | exact lkX_p1 | exact lkX_p3 | exact lkX_p5 | exact lkX_p7 | exact lkX_p9 | exact lkX_2 | exact lkX_109 | exact lkX_4 | exact lkX_d); rfl) rfl ?_
      refine j_getf (pc := 76) dX6_dead_76 fl_X6_120 (by apply lkE; (with_reducible first | exact lkX_1 | exact lkX_27 | exact lkX_p | exact lkX_34 | exact lkX_35 | exact lkX_107 | exact lkX_125 | exact lkX_127 | exact lkX_28 | exact lkX_30 | exact lkX_32 | exact lkX_p1 | exact lkX_p3 | exact lkX_p5 | exact lkX_p7 | exact lkX_p9 | exact lkX_2 | exact lkX_109 | exact lkX_4 | exact lkX_d); rfl) rfl ?_
      refine j_iload_n (pc := 79) dX6_dead_79 rfl ?_
      refine j_v1 (pc := 80) (ci := 3) dX6_dead_80 mc_X3_at ml_X6_107 im_X3_at se_X3_at rfl rfl (by apply lkE; (with_reducible first | exact lkX_1 | exact lkX_27 | exact lkX_p | exact lkX_34 | exact lkX_35 | exact lkX_107 | exact lkX_125 | exact lkX_127 | exact lkX_28 | exact lkX_30 | exact lkX_32 | exact lkX_p1 | exact lkX_p3 | exact lkX_p5 | exact lkX_p7 | exact lkX_p9 | exact lkX_2 | exact lkX_109 | exact lkX_4 | exact lkX_d); rfl) (by omega) (c_at (n := 6) (by decide) (by apply lkE; (with_reducible first | exact lkX_p3 | exact lkX_28 | exact lkX_30 | exact lkX_32 | exact lkX_107 | exact lkX_125 | exact lkX_127); rfl) (by apply lkE; (with_reducible first | exact lkX_p4 | exact lkX_29 | exact lkX_31 | exact lkX_33 | exact lkX_108 | exact lkX_126 | exact lkX_128); rfl)) (Nat.le_of_ble_eq_true rfl) ?_
      refine j_ireturn (pc := 83) dX6_dead_83 rfl ?_
      have z := h2 zc8
      subst zs15_1
      rw [daI0, if_neg (show ¬ (1 : Int32) = 0 by decide), if_pos rfl] at z
      exact z
    by_cases zs15_2 : c = 2
    · refine j_tableIn (pc := 15) (off := 69) (tgt := 84) dX6_dead_15 (by rw [zs15_2]; decide) (by rw [zs15_2]; decide) (by rw [zs15_2]; decide) rfl ?_
      refine j_aload_n (pc := 84) dX6_dead_84 rfl ?_
      refine j_getf (pc := 85) dX6_dead_85 fl_X6_40 (by apply lkE; (with_reducible first | exact lkX_1 | exact lkX_27 | exact lkX_p | exact lkX_34 | exact lkX_35 | exact lkX_107 | exact lkX_125 | exact lkX_127 | exact lkX_28 | exact lkX_30 | exact lkX_32 | exact lkX_p1 | exact lkX_p3 | exact lkX_p5 | exact lkX_p7 | exact lkX_p9 | exact lkX_2 | exact lkX_109 | exact lkX_4 | exact lkX_d); rfl) rfl ?_
      refine j_getf (pc := 88) dX6_dead_88 fl_X6_123 (by apply lkE; (with_reducible first | exact lkX_1 | exact lkX_27 | exact lkX_p | exact lkX_34 | exact lkX_35 | exact lkX_107 | exact lkX_125 | exact lkX_127 | exact lkX_28 | exact lkX_30 | exact lkX_32 | exact lkX_p1 | exact lkX_p3 | exact lkX_p5 | exact lkX_p7 | exact lkX_p9 | exact lkX_2 | exact lkX_109 | exact lkX_4 | exact lkX_d); rfl) rfl ?_
      refine j_iload_n (pc := 91) dX6_dead_91 rfl ?_
      refine j_v1 (pc := 92) (ci := 3) dX6_dead_92 mc_X3_at ml_X6_107 im_X3_at se_X3_at rfl rfl (by apply lkE; (with_reducible first | exact lkX_1 | exact lkX_27 | exact lkX_p | exact lkX_34 | exact lkX_35 | exact lkX_107 | exact lkX_125 | exact lkX_127 | exact lkX_28 | exact lkX_30 | exact lkX_32 | exact lkX_p1 | exact lkX_p3 | exact lkX_p5 | exact lkX_p7 | exact lkX_p9 | exact lkX_2 | exact lkX_109 | exact lkX_4 | exact lkX_d); rfl) (by omega) (c_at (n := 6) (by decide) (by apply lkE; (with_reducible first | exact lkX_p3 | exact lkX_28 | exact lkX_30 | exact lkX_32 | exact lkX_107 | exact lkX_125 | exact lkX_127); rfl) (by apply lkE; (with_reducible first | exact lkX_p4 | exact lkX_29 | exact lkX_31 | exact lkX_33 | exact lkX_108 | exact lkX_126 | exact lkX_128); rfl)) (Nat.le_of_ble_eq_true rfl) ?_
      refine j_ireturn (pc := 95) dX6_dead_95 rfl ?_
      have z := h2 zc8
      subst zs15_2
      rw [daI0, if_neg (show ¬ (2 : Int32) = 0 by decide), if_neg (show ¬ (2 : Int32) = 1 by decide), if_pos rfl] at z
      exact z
    by_cases zs15_3 : c = 3
    · refine j_tableIn (pc := 15) (off := 81) (tgt := 96) dX6_dead_15 (by rw [zs15_3]; decide) (by rw [zs15_3]; decide) (by rw [zs15_3]; decide) rfl ?_
      refine j_aload_n (pc := 96) dX6_dead_96 rfl ?_
      refine j_getf (pc := 97) dX6_dead_97 fl_X6_30 (by apply lkE; (with_reducible first | exact lkX_1 | exact lkX_27 | exact lkX_p | exact lkX_34 | exact lkX_35 | exact lkX_107 | exact lkX_125 | exact lkX_127 | exact lkX_28 | exact lkX_30 | exact lkX_32 | exact lkX_p1 | exact lkX_p3 | exact lkX_p5 | exact lkX_p7 | exact lkX_p9 | exact lkX_2 | exact lkX_109 | exact lkX_4 | exact lkX_d); rfl) rfl ?_
      refine j_getf (pc := 100) dX6_dead_100 fl_X6_104 (by apply lkE; (with_reducible first | exact lkX_1 | exact lkX_27 | exact lkX_p | exact lkX_34 | exact lkX_35 | exact lkX_107 | exact lkX_125 | exact lkX_127 | exact lkX_28 | exact lkX_30 | exact lkX_32 | exact lkX_p1 | exact lkX_p3 | exact lkX_p5 | exact lkX_p7 | exact lkX_p9 | exact lkX_2 | exact lkX_109 | exact lkX_4 | exact lkX_d); rfl) rfl ?_
      refine j_aload_n (pc := 103) dX6_dead_103 rfl ?_
      refine j_getf (pc := 104) dX6_dead_104 fl_X6_40 (by apply lkE; (with_reducible first | exact lkX_1 | exact lkX_27 | exact lkX_p | exact lkX_34 | exact lkX_35 | exact lkX_107 | exact lkX_125 | exact lkX_127 | exact lkX_28 | exact lkX_30 | exact lkX_32 | exact lkX_p1 | exact lkX_p3 | exact lkX_p5 | exact lkX_p7 | exact lkX_p9 | exact lkX_2 | exact lkX_109 | exact lkX_4 | exact lkX_d); rfl) rfl ?_
      refine j_getf (pc := 107) dX6_dead_107 fl_X6_123 (by apply lkE; (with_reducible first | exact lkX_1 | exact lkX_27 | exact lkX_p | exact lkX_34 | exact lkX_35 | exact lkX_107 | exact lkX_125 | exact lkX_127 | exact lkX_28 | exact lkX_30 | exact lkX_32 | exact lkX_p1 | exact lkX_p3 | exact lkX_p5 | exact lkX_p7 | exact lkX_p9 | exact lkX_2 | exact lkX_109 | exact lkX_4 | exact lkX_d); rfl) rfl ?_
      refine j_iload_n (pc := 110) dX6_dead_110 rfl ?_
      refine j_v1 (pc := 111) (ci := 3) dX6_dead_111 mc_X3_at ml_X6_107 im_X3_at se_X3_at rfl rfl (by apply lkE; (with_reducible first | exact lkX_1 | exact lkX_27 | exact lkX_p | exact lkX_34 | exact lkX_35 | exact lkX_107 | exact lkX_125 | exact lkX_127 | exact lkX_28 | exact lkX_30 | exact lkX_32 | exact lkX_p1 | exact lkX_p3 | exact lkX_p5 | exact lkX_p7 | exact lkX_p9 | exact lkX_2 | exact lkX_109 | exact lkX_4 | exact lkX_d); rfl) (by omega) (c_at (n := 6) (by decide) (by apply lkE; (with_reducible first | exact lkX_p3 | exact lkX_28 | exact lkX_30 | exact lkX_32 | exact lkX_107 | exact lkX_125 | exact lkX_127); rfl) (by apply lkE; (with_reducible first | exact lkX_p4 | exact lkX_29 | exact lkX_31 | exact lkX_33 | exact lkX_108 | exact lkX_126 | exact lkX_128); rfl)) (Nat.le_of_ble_eq_true rfl) ?_
      refine j_v1 (pc := 114) (ci := 3) dX6_dead_114 mc_X3_sumOf ml_X6_126 im_X3_sumOf se_X3_sumOf rfl rfl (by apply lkE; (with_reducible first | exact lkX_1 | exact lkX_27 | exact lkX_p | exact lkX_34 | exact lkX_35 | exact lkX_107 | exact lkX_125 | exact lkX_127 | exact lkX_28 | exact lkX_30 | exact lkX_32 | exact lkX_p1 | exact lkX_p3 | exact lkX_p5 | exact lkX_p7 | exact lkX_p9 | exact lkX_2 | exact lkX_109 | exact lkX_4 | exact lkX_d); rfl) (by omega) (c_sumOf (by apply lkE; (with_reducible first | exact lkX_p1 | exact lkX_p9); rfl) (by apply lkE; (with_reducible first | exact lkX_p2 | exact lkX_p10); rfl)) (Nat.le_of_ble_eq_true rfl) ?_
      refine j_ireturn (pc := 117) dX6_dead_117 rfl ?_
      have z := h2 zc8
      subst zs15_3
      rw [daI0, if_neg (show ¬ (3 : Int32) = 0 by decide), if_neg (show ¬ (3 : Int32) = 1 by decide), if_neg (show ¬ (3 : Int32) = 2 by decide), if_pos rfl] at z
      exact z
    by_cases zs15_4 : c = 4
    · refine j_tableIn (pc := 15) (off := 103) (tgt := 118) dX6_dead_15 (by rw [zs15_4]; decide) (by rw [zs15_4]; decide) (by rw [zs15_4]; decide) rfl ?_
      refine j_aload_n (pc := 118) dX6_dead_118 rfl ?_
      refine j_iload_n (pc := 119) dX6_dead_119 rfl ?_
      refine j_v1 (pc := 120) (ci := 6) dX6_dead_120 mc_X6_loadOf ml_X6_129 im_X6_loadOf se_X6_loadOf rfl rfl (by apply lkE; (with_reducible first | exact lkX_1 | exact lkX_27 | exact lkX_p | exact lkX_34 | exact lkX_35 | exact lkX_107 | exact lkX_125 | exact lkX_127 | exact lkX_28 | exact lkX_30 | exact lkX_32 | exact lkX_p1 | exact lkX_p3 | exact lkX_p5 | exact lkX_p7 | exact lkX_p9 | exact lkX_2 | exact lkX_109 | exact lkX_4 | exact lkX_d); rfl) (by omega) (x_loadOf) (Nat.le_of_ble_eq_true rfl) ?_
      refine j_ireturn (pc := 123) dX6_dead_123 rfl ?_
      have z := h2 zc8
      subst zs15_4
      rw [daI0, if_neg (show ¬ (4 : Int32) = 0 by decide), if_neg (show ¬ (4 : Int32) = 1 by decide), if_neg (show ¬ (4 : Int32) = 2 by decide), if_neg (show ¬ (4 : Int32) = 3 by decide), if_pos rfl] at z
      exact z
    by_cases zs15_5 : c = 5
    · refine j_tableIn (pc := 15) (off := 109) (tgt := 124) dX6_dead_15 (by rw [zs15_5]; decide) (by rw [zs15_5]; decide) (by rw [zs15_5]; decide) rfl ?_
      refine j_aload_n (pc := 124) dX6_dead_124 rfl ?_
      refine j_getf (pc := 125) dX6_dead_125 fl_X6_40 (by apply lkE; (with_reducible first | exact lkX_1 | exact lkX_27 | exact lkX_p | exact lkX_34 | exact lkX_35 | exact lkX_107 | exact lkX_125 | exact lkX_127 | exact lkX_28 | exact lkX_30 | exact lkX_32 | exact lkX_p1 | exact lkX_p3 | exact lkX_p5 | exact lkX_p7 | exact lkX_p9 | exact lkX_2 | exact lkX_109 | exact lkX_4 | exact lkX_d); rfl) rfl ?_
      refine j_getf (pc := 128) dX6_dead_128 fl_X6_132 (by apply lkE; (with_reducible first | exact lkX_1 | exact lkX_27 | exact lkX_p | exact lkX_34 | exact lkX_35 | exact lkX_107 | exact lkX_125 | exact lkX_127 | exact lkX_28 | exact lkX_30 | exact lkX_32 | exact lkX_p1 | exact lkX_p3 | exact lkX_p5 | exact lkX_p7 | exact lkX_p9 | exact lkX_2 | exact lkX_109 | exact lkX_4 | exact lkX_d); rfl) rfl ?_
      refine j_iload_n (pc := 131) dX6_dead_131 rfl ?_
      refine j_v1 (pc := 132) (ci := 3) dX6_dead_132 mc_X3_at ml_X6_107 im_X3_at se_X3_at rfl rfl (by apply lkE; (with_reducible first | exact lkX_1 | exact lkX_27 | exact lkX_p | exact lkX_34 | exact lkX_35 | exact lkX_107 | exact lkX_125 | exact lkX_127 | exact lkX_28 | exact lkX_30 | exact lkX_32 | exact lkX_p1 | exact lkX_p3 | exact lkX_p5 | exact lkX_p7 | exact lkX_p9 | exact lkX_2 | exact lkX_109 | exact lkX_4 | exact lkX_d); rfl) (by omega) (c_at (n := 6) (by decide) (by apply lkE; (with_reducible first | exact lkX_p3 | exact lkX_28 | exact lkX_30 | exact lkX_32 | exact lkX_107 | exact lkX_125 | exact lkX_127); rfl) (by apply lkE; (with_reducible first | exact lkX_p4 | exact lkX_29 | exact lkX_31 | exact lkX_33 | exact lkX_108 | exact lkX_126 | exact lkX_128); rfl)) (Nat.le_of_ble_eq_true rfl) ?_
      refine j_ireturn (pc := 135) dX6_dead_135 rfl ?_
      have z := h2 zc8
      subst zs15_5
      rw [daI0, if_neg (show ¬ (5 : Int32) = 0 by decide), if_neg (show ¬ (5 : Int32) = 1 by decide), if_neg (show ¬ (5 : Int32) = 2 by decide), if_neg (show ¬ (5 : Int32) = 3 by decide), if_neg (show ¬ (5 : Int32) = 4 by decide), if_pos rfl] at z
      exact z
    by_cases zs15_6 : c = 6
    · refine j_tableIn (pc := 15) (off := 121) (tgt := 136) dX6_dead_15 (by rw [zs15_6]; decide) (by rw [zs15_6]; decide) (by rw [zs15_6]; decide) rfl ?_
      refine j_aload_n (pc := 136) dX6_dead_136 rfl ?_
      refine j_iload_n (pc := 137) dX6_dead_137 rfl ?_
      refine j_v1 (pc := 138) (ci := 6) dX6_dead_138 mc_X6_readingOf ml_X6_135 im_X6_readingOf se_X6_readingOf rfl rfl (by apply lkE; (with_reducible first | exact lkX_1 | exact lkX_27 | exact lkX_p | exact lkX_34 | exact lkX_35 | exact lkX_107 | exact lkX_125 | exact lkX_127 | exact lkX_28 | exact lkX_30 | exact lkX_32 | exact lkX_p1 | exact lkX_p3 | exact lkX_p5 | exact lkX_p7 | exact lkX_p9 | exact lkX_2 | exact lkX_109 | exact lkX_4 | exact lkX_d); rfl) (by omega) (x_readingOf) (Nat.le_of_ble_eq_true rfl) ?_
      refine j_ireturn (pc := 141) dX6_dead_141 rfl ?_
      have z := h2 zc8
      subst zs15_6
      rw [daI0, if_neg (show ¬ (6 : Int32) = 0 by decide), if_neg (show ¬ (6 : Int32) = 1 by decide), if_neg (show ¬ (6 : Int32) = 2 by decide), if_neg (show ¬ (6 : Int32) = 3 by decide), if_neg (show ¬ (6 : Int32) = 4 by decide), if_neg (show ¬ (6 : Int32) = 5 by decide), if_pos rfl] at z
      exact z
    by_cases zs15_7 : c = 7
    · refine j_tableIn (pc := 15) (off := 127) (tgt := 142) dX6_dead_15 (by rw [zs15_7]; decide) (by rw [zs15_7]; decide) (by rw [zs15_7]; decide) rfl ?_
      refine j_aload_n (pc := 142) dX6_dead_142 rfl ?_
      refine j_iload_n (pc := 143) dX6_dead_143 rfl ?_
      refine j_v1 (pc := 144) (ci := 6) dX6_dead_144 mc_X6_errorOf ml_X6_138 im_X6_errorOf se_X6_errorOf rfl rfl (by apply lkE; (with_reducible first | exact lkX_1 | exact lkX_27 | exact lkX_p | exact lkX_34 | exact lkX_35 | exact lkX_107 | exact lkX_125 | exact lkX_127 | exact lkX_28 | exact lkX_30 | exact lkX_32 | exact lkX_p1 | exact lkX_p3 | exact lkX_p5 | exact lkX_p7 | exact lkX_p9 | exact lkX_2 | exact lkX_109 | exact lkX_4 | exact lkX_d); rfl) (by omega) (x_errorOf) (Nat.le_of_ble_eq_true rfl) ?_
      refine j_ireturn (pc := 147) dX6_dead_147 rfl ?_
      have z := h2 zc8
      subst zs15_7
      rw [daI0, if_neg (show ¬ (7 : Int32) = 0 by decide), if_neg (show ¬ (7 : Int32) = 1 by decide), if_neg (show ¬ (7 : Int32) = 2 by decide), if_neg (show ¬ (7 : Int32) = 3 by decide), if_neg (show ¬ (7 : Int32) = 4 by decide), if_neg (show ¬ (7 : Int32) = 5 by decide), if_neg (show ¬ (7 : Int32) = 6 by decide), if_pos rfl] at z
      exact z
    exfalso
    have zt15_0 : ¬ (c).toInt = 0 := fun e => zs15_0 (Int32.toInt_inj.mp (e.trans (by decide)))
    have zt15_1 : ¬ (c).toInt = 1 := fun e => zs15_1 (Int32.toInt_inj.mp (e.trans (by decide)))
    have zt15_2 : ¬ (c).toInt = 2 := fun e => zs15_2 (Int32.toInt_inj.mp (e.trans (by decide)))
    have zt15_3 : ¬ (c).toInt = 3 := fun e => zs15_3 (Int32.toInt_inj.mp (e.trans (by decide)))
    have zt15_4 : ¬ (c).toInt = 4 := fun e => zs15_4 (Int32.toInt_inj.mp (e.trans (by decide)))
    have zt15_5 : ¬ (c).toInt = 5 := fun e => zs15_5 (Int32.toInt_inj.mp (e.trans (by decide)))
    have zt15_6 : ¬ (c).toInt = 6 := fun e => zs15_6 (Int32.toInt_inj.mp (e.trans (by decide)))
    have zt15_7 : ¬ (c).toInt = 7 := fun e => zs15_7 (Int32.toInt_inj.mp (e.trans (by decide)))
    omega
  · refine j_ldc (pc := 11) dX6_dead_11 ck_X6_103 ?_
    refine j_ireturn (pc := 13) dX6_dead_13 rfl ?_
    exact h1 zc8

set_option maxRecDepth 20000 in
set_option maxHeartbeats 200000 in
theorem x_bearer {i : Int32} (h1 : jlt i P.2.2.2.1 = false → Q (some (.int (-1))) (W1 scr tl lt lc rd sw P D S kk nx ring bu im kept tb tr tc ts)) (h2 : jlt i P.2.2.2.1 = true → Q (some (.int (rAt 6 P.2.2.2.2.2.2.2.2.2.2 i))) (W1 scr tl lt lc rd sw P D S kk nx ring bu im kept tb tr tc ts)) : C g 1 0 0 mX6_bearer [.ref 1, .int i] (W1 scr tl lt lc rd sw P D S kk nx ring bu im kept tb tr tc ts) Q := by
  refine C.of (by decide +kernel) (by simp [Value.category]) (Nat.le_of_ble_eq_true rfl) ?_
  change J g mX6_bearer 1 0 0 _ (W1 scr tl lt lc rd sw P D S kk nx ring bu im kept tb tr tc ts) 0 [some (.ref 1), some (.int i)] []
  refine j_aload_n (pc := 0) dX6_bearer_0 rfl ?_
  refine j_getf (pc := 1) dX6_bearer_1 fl_X6_30 (by apply lkE; (with_reducible first | exact lkX_1 | exact lkX_27 | exact lkX_p | exact lkX_34 | exact lkX_35 | exact lkX_107 | exact lkX_125 | exact lkX_127 | exact lkX_28 | exact lkX_30 | exact lkX_32 | exact lkX_p1 | exact lkX_p3 | exact lkX_p5 | exact lkX_p7 | exact lkX_p9 | exact lkX_2 | exact lkX_109 | exact lkX_4 | exact lkX_d); rfl) rfl ?_
  refine j_iload_n (pc := 4) dX6_bearer_4 rfl ?_
  refine j_v1 (pc := 5) (ci := 1) dX6_bearer_5 mc_X1_hasBearer ml_X6_141 im_X1_hasBearer se_X1_hasBearer rfl rfl (by apply lkE; (with_reducible first | exact lkX_1 | exact lkX_27 | exact lkX_p | exact lkX_34 | exact lkX_35 | exact lkX_107 | exact lkX_125 | exact lkX_127 | exact lkX_28 | exact lkX_30 | exact lkX_32 | exact lkX_p1 | exact lkX_p3 | exact lkX_p5 | exact lkX_p7 | exact lkX_p9 | exact lkX_2 | exact lkX_109 | exact lkX_4 | exact lkX_d); rfl) (by omega) (c_hasBearer (by apply lkE; (with_reducible first | exact lkX_p); rfl)) (Nat.le_of_ble_eq_true rfl) ?_
  refine j_beq (pc := 8) (tgt := 25) dX6_bearer_8 rfl (fun zc8 => ?_) (fun zc8 => ?_)
  · refine j_iconst (pc := 25) dX6_bearer_25 kc_m1 ?_
    refine j_ireturn (pc := 26) dX6_bearer_26 rfl ?_
    first | exact h1 zc8 | exact h2 zc8
  · refine j_aload_n (pc := 11) dX6_bearer_11 rfl ?_
    refine j_getf (pc := 12) dX6_bearer_12 fl_X6_30 (by apply lkE; (with_reducible first | exact lkX_1 | exact lkX_27 | exact lkX_p | exact lkX_34 | exact lkX_35 | exact lkX_107 | exact lkX_125 | exact lkX_127 | exact lkX_28 | exact lkX_30 | exact lkX_32 | exact lkX_p1 | exact lkX_p3 | exact lkX_p5 | exact lkX_p7 | exact lkX_p9 | exact lkX_2 | exact lkX_109 | exact lkX_4 | exact lkX_d); rfl) rfl ?_
    refine j_getf (pc := 15) dX6_bearer_15 fl_X6_144 (by apply lkE; (with_reducible first | exact lkX_1 | exact lkX_27 | exact lkX_p | exact lkX_34 | exact lkX_35 | exact lkX_107 | exact lkX_125 | exact lkX_127 | exact lkX_28 | exact lkX_30 | exact lkX_32 | exact lkX_p1 | exact lkX_p3 | exact lkX_p5 | exact lkX_p7 | exact lkX_p9 | exact lkX_2 | exact lkX_109 | exact lkX_4 | exact lkX_d); rfl) rfl ?_
    refine j_iload_n (pc := 18) dX6_bearer_18 rfl ?_
    refine j_v1 (pc := 19) (ci := 3) dX6_bearer_19 mc_X3_at ml_X6_107 im_X3_at se_X3_at rfl rfl (by apply lkE; (with_reducible first | exact lkX_1 | exact lkX_27 | exact lkX_p | exact lkX_34 | exact lkX_35 | exact lkX_107 | exact lkX_125 | exact lkX_127 | exact lkX_28 | exact lkX_30 | exact lkX_32 | exact lkX_p1 | exact lkX_p3 | exact lkX_p5 | exact lkX_p7 | exact lkX_p9 | exact lkX_2 | exact lkX_109 | exact lkX_4 | exact lkX_d); rfl) (by omega) (c_at (n := 6) (by decide) (by apply lkE; (with_reducible first | exact lkX_p9); rfl) (by apply lkE; (with_reducible first | exact lkX_p10); rfl)) (Nat.le_of_ble_eq_true rfl) ?_
    refine j_goto (pc := 22) (tgt := 26) dX6_bearer_22 rfl ?_
    refine j_ireturn (pc := 26) dX6_bearer_26 rfl ?_
    first | exact h1 zc8 | exact h2 zc8

def nwI (S : ScV) (kk : Int32) (n : Nat) (c : Int32) : Int32 := if c = 0 then S.1 else if c = 1 then S.2.1 else if c = 2 then S.2.2.1 else if c = 3 then iter (chStep S) n 0 0 else if c = 4 then kk else -1000000
set_option maxRecDepth 20000 in
set_option maxHeartbeats 200000 in
theorem x_now {c : Int32} {n : Nat} (hdd : P.2.2.1 = nI n) (hn : n ≤ 6) (h1 : Q (some (.int (nwI S kk n c))) (W1 scr tl lt lc rd sw P D S kk nx ring bu im kept tb tr tc ts)) : C g 4 0 0 mX6_now [.ref 1, .int c] (W1 scr tl lt lc rd sw P D S kk nx ring bu im kept tb tr tc ts) Q := by
  refine C.of (by decide +kernel) (by simp [Value.category]) (Nat.le_of_ble_eq_true rfl) ?_
  change J g mX6_now 4 0 0 _ (W1 scr tl lt lc rd sw P D S kk nx ring bu im kept tb tr tc ts) 0 [some (.ref 1), some (.int c)] []
  refine j_iload_n (pc := 0) dX6_now_0 rfl ?_
  by_cases zs1 : (c).toInt < 0 ∨ 4 < (c).toInt
  · refine j_tableOut (pc := 1) (tgt := 73) dX6_now_1 zs1 rfl ?_
    refine j_ldc (pc := 73) dX6_now_73 ck_X6_103 ?_
    refine j_ireturn (pc := 75) dX6_now_75 rfl ?_
    rw [nwI, if_neg (show ¬ c = 0 from fun e => by subst e; exact absurd zs1 (by decide)), if_neg (show ¬ c = 1 from fun e => by subst e; exact absurd zs1 (by decide)), if_neg (show ¬ c = 2 from fun e => by subst e; exact absurd zs1 (by decide)), if_neg (show ¬ c = 3 from fun e => by subst e; exact absurd zs1 (by decide)), if_neg (show ¬ c = 4 from fun e => by subst e; exact absurd zs1 (by decide))] at h1
    exact h1
  by_cases zs1_0 : c = 0
  · refine j_tableIn (pc := 1) (off := 35) (tgt := 36) dX6_now_1 (by rw [zs1_0]; decide) (by rw [zs1_0]; decide) (by rw [zs1_0]; decide) rfl ?_
    refine j_aload_n (pc := 36) dX6_now_36 rfl ?_
    refine j_getf (pc := 37) dX6_now_37 fl_X6_40 (by apply lkE; (with_reducible first | exact lkX_1 | exact lkX_27 | exact lkX_p | exact lkX_34 | exact lkX_35 | exact lkX_107 | exact lkX_125 | exact lkX_127 | exact lkX_28 | exact lkX_30 | exact lkX_32 | exact lkX_p1 | exact lkX_p3 | exact lkX_p5 | exact lkX_p7 | exact lkX_p9 | exact lkX_2 | exact lkX_109 | exact lkX_4 | exact lkX_d); rfl) rfl ?_
    refine j_getf (pc := 40) dX6_now_40 fl_X6_147 (by apply lkE; (with_reducible first | exact lkX_1 | exact lkX_27 | exact lkX_p | exact lkX_34 | exact lkX_35 | exact lkX_107 | exact lkX_125 | exact lkX_127 | exact lkX_28 | exact lkX_30 | exact lkX_32 | exact lkX_p1 | exact lkX_p3 | exact lkX_p5 | exact lkX_p7 | exact lkX_p9 | exact lkX_2 | exact lkX_109 | exact lkX_4 | exact lkX_d); rfl) rfl ?_
    refine j_ireturn (pc := 43) dX6_now_43 rfl ?_
    subst zs1_0
    rw [nwI, if_pos rfl] at h1
    exact h1
  by_cases zs1_1 : c = 1
  · refine j_tableIn (pc := 1) (off := 43) (tgt := 44) dX6_now_1 (by rw [zs1_1]; decide) (by rw [zs1_1]; decide) (by rw [zs1_1]; decide) rfl ?_
    refine j_aload_n (pc := 44) dX6_now_44 rfl ?_
    refine j_getf (pc := 45) dX6_now_45 fl_X6_40 (by apply lkE; (with_reducible first | exact lkX_1 | exact lkX_27 | exact lkX_p | exact lkX_34 | exact lkX_35 | exact lkX_107 | exact lkX_125 | exact lkX_127 | exact lkX_28 | exact lkX_30 | exact lkX_32 | exact lkX_p1 | exact lkX_p3 | exact lkX_p5 | exact lkX_p7 | exact lkX_p9 | exact lkX_2 | exact lkX_109 | exact lkX_4 | exact lkX_d); rfl) rfl ?_
    refine j_getf (pc := 48) dX6_now_48 fl_X6_150 (by apply lkE; (with_reducible first | exact lkX_1 | exact lkX_27 | exact lkX_p | exact lkX_34 | exact lkX_35 | exact lkX_107 | exact lkX_125 | exact lkX_127 | exact lkX_28 | exact lkX_30 | exact lkX_32 | exact lkX_p1 | exact lkX_p3 | exact lkX_p5 | exact lkX_p7 | exact lkX_p9 | exact lkX_2 | exact lkX_109 | exact lkX_4 | exact lkX_d); rfl) rfl ?_
    refine j_ireturn (pc := 51) dX6_now_51 rfl ?_
    subst zs1_1
    rw [nwI, if_neg (show ¬ (1 : Int32) = 0 by decide), if_pos rfl] at h1
    exact h1
  by_cases zs1_2 : c = 2
  · refine j_tableIn (pc := 1) (off := 51) (tgt := 52) dX6_now_1 (by rw [zs1_2]; decide) (by rw [zs1_2]; decide) (by rw [zs1_2]; decide) rfl ?_
    refine j_aload_n (pc := 52) dX6_now_52 rfl ?_
    refine j_getf (pc := 53) dX6_now_53 fl_X6_40 (by apply lkE; (with_reducible first | exact lkX_1 | exact lkX_27 | exact lkX_p | exact lkX_34 | exact lkX_35 | exact lkX_107 | exact lkX_125 | exact lkX_127 | exact lkX_28 | exact lkX_30 | exact lkX_32 | exact lkX_p1 | exact lkX_p3 | exact lkX_p5 | exact lkX_p7 | exact lkX_p9 | exact lkX_2 | exact lkX_109 | exact lkX_4 | exact lkX_d); rfl) rfl ?_
    refine j_getf (pc := 56) dX6_now_56 fl_X6_153 (by apply lkE; (with_reducible first | exact lkX_1 | exact lkX_27 | exact lkX_p | exact lkX_34 | exact lkX_35 | exact lkX_107 | exact lkX_125 | exact lkX_127 | exact lkX_28 | exact lkX_30 | exact lkX_32 | exact lkX_p1 | exact lkX_p3 | exact lkX_p5 | exact lkX_p7 | exact lkX_p9 | exact lkX_2 | exact lkX_109 | exact lkX_4 | exact lkX_d); rfl) rfl ?_
    refine j_ireturn (pc := 59) dX6_now_59 rfl ?_
    subst zs1_2
    rw [nwI, if_neg (show ¬ (2 : Int32) = 0 by decide), if_neg (show ¬ (2 : Int32) = 1 by decide), if_pos rfl] at h1
    exact h1
  by_cases zs1_3 : c = 3
  · refine j_tableIn (pc := 1) (off := 59) (tgt := 60) dX6_now_1 (by rw [zs1_3]; decide) (by rw [zs1_3]; decide) (by rw [zs1_3]; decide) rfl ?_
    refine j_aload_n (pc := 60) dX6_now_60 rfl ?_
    refine j_v0 (pc := 61) (ci := 6) dX6_now_61 mc_X6_whoIsChalked ml_X6_156 im_X6_whoIsChalked se_X6_whoIsChalked rfl rfl (by apply lkE; (with_reducible first | exact lkX_1 | exact lkX_27 | exact lkX_p | exact lkX_34 | exact lkX_35 | exact lkX_107 | exact lkX_125 | exact lkX_127 | exact lkX_28 | exact lkX_30 | exact lkX_32 | exact lkX_p1 | exact lkX_p3 | exact lkX_p5 | exact lkX_p7 | exact lkX_p9 | exact lkX_2 | exact lkX_109 | exact lkX_4 | exact lkX_d); rfl) (by omega) (x_whoIsChalked hdd hn) (Nat.le_of_ble_eq_true rfl) ?_
    refine j_ireturn (pc := 64) dX6_now_64 rfl ?_
    subst zs1_3
    rw [nwI, if_neg (show ¬ (3 : Int32) = 0 by decide), if_neg (show ¬ (3 : Int32) = 1 by decide), if_neg (show ¬ (3 : Int32) = 2 by decide), if_pos rfl] at h1
    exact h1
  by_cases zs1_4 : c = 4
  · refine j_tableIn (pc := 1) (off := 64) (tgt := 65) dX6_now_1 (by rw [zs1_4]; decide) (by rw [zs1_4]; decide) (by rw [zs1_4]; decide) rfl ?_
    refine j_aload_n (pc := 65) dX6_now_65 rfl ?_
    refine j_getf (pc := 66) dX6_now_66 fl_X6_51 (by apply lkE; (with_reducible first | exact lkX_1 | exact lkX_27 | exact lkX_p | exact lkX_34 | exact lkX_35 | exact lkX_107 | exact lkX_125 | exact lkX_127 | exact lkX_28 | exact lkX_30 | exact lkX_32 | exact lkX_p1 | exact lkX_p3 | exact lkX_p5 | exact lkX_p7 | exact lkX_p9 | exact lkX_2 | exact lkX_109 | exact lkX_4 | exact lkX_d); rfl) rfl ?_
    refine j_getf (pc := 69) dX6_now_69 fl_X6_160 (by apply lkE; (with_reducible first | exact lkX_1 | exact lkX_27 | exact lkX_p | exact lkX_34 | exact lkX_35 | exact lkX_107 | exact lkX_125 | exact lkX_127 | exact lkX_28 | exact lkX_30 | exact lkX_32 | exact lkX_p1 | exact lkX_p3 | exact lkX_p5 | exact lkX_p7 | exact lkX_p9 | exact lkX_2 | exact lkX_109 | exact lkX_4 | exact lkX_d); rfl) rfl ?_
    refine j_ireturn (pc := 72) dX6_now_72 rfl ?_
    subst zs1_4
    rw [nwI, if_neg (show ¬ (4 : Int32) = 0 by decide), if_neg (show ¬ (4 : Int32) = 1 by decide), if_neg (show ¬ (4 : Int32) = 2 by decide), if_neg (show ¬ (4 : Int32) = 3 by decide), if_pos rfl] at h1
    exact h1
  exfalso
  have zt1_0 : ¬ (c).toInt = 0 := fun e => zs1_0 (Int32.toInt_inj.mp (e.trans (by decide)))
  have zt1_1 : ¬ (c).toInt = 1 := fun e => zs1_1 (Int32.toInt_inj.mp (e.trans (by decide)))
  have zt1_2 : ¬ (c).toInt = 2 := fun e => zs1_2 (Int32.toInt_inj.mp (e.trans (by decide)))
  have zt1_3 : ¬ (c).toInt = 3 := fun e => zs1_3 (Int32.toInt_inj.mp (e.trans (by decide)))
  have zt1_4 : ¬ (c).toInt = 4 := fun e => zs1_4 (Int32.toInt_inj.mp (e.trans (by decide)))
  omega

def ctI (P : ParV) (tc lc c : Int32) : Int32 := if c = 0 then P.2.1 else if c = 1 then P.2.2.1 else if c = 2 then P.2.2.2.1 else if c = 3 then P.2.2.2.2.1 else if c = 4 then P.2.2.2.2.2.1 else if c = 5 then tc else if c = 6 then lc else -1
set_option maxRecDepth 20000 in
set_option maxHeartbeats 200000 in
theorem x_count {c : Int32} (h1 : Q (some (.int (ctI P tc lc c))) (W1 scr tl lt lc rd sw P D S kk nx ring bu im kept tb tr tc ts)) : C g 0 0 0 mX6_count [.ref 1, .int c] (W1 scr tl lt lc rd sw P D S kk nx ring bu im kept tb tr tc ts) Q := by
  refine C.of (by decide +kernel) (by simp [Value.category]) (Nat.le_of_ble_eq_true rfl) ?_
  change J g mX6_count 0 0 0 _ (W1 scr tl lt lc rd sw P D S kk nx ring bu im kept tb tr tc ts) 0 [some (.ref 1), some (.int c)] []
  refine j_iload_n (pc := 0) dX6_count_0 rfl ?_
  by_cases zs1 : (c).toInt < 0 ∨ 6 < (c).toInt
  · refine j_tableOut (pc := 1) (tgt := 94) dX6_count_1 zs1 rfl ?_
    refine j_iconst (pc := 94) dX6_count_94 kc_m1 ?_
    refine j_ireturn (pc := 95) dX6_count_95 rfl ?_
    rw [ctI, if_neg (show ¬ c = 0 from fun e => by subst e; exact absurd zs1 (by decide)), if_neg (show ¬ c = 1 from fun e => by subst e; exact absurd zs1 (by decide)), if_neg (show ¬ c = 2 from fun e => by subst e; exact absurd zs1 (by decide)), if_neg (show ¬ c = 3 from fun e => by subst e; exact absurd zs1 (by decide)), if_neg (show ¬ c = 4 from fun e => by subst e; exact absurd zs1 (by decide)), if_neg (show ¬ c = 5 from fun e => by subst e; exact absurd zs1 (by decide)), if_neg (show ¬ c = 6 from fun e => by subst e; exact absurd zs1 (by decide))] at h1
    exact h1
  by_cases zs1_0 : c = 0
  · refine j_tableIn (pc := 1) (off := 43) (tgt := 44) dX6_count_1 (by rw [zs1_0]; decide) (by rw [zs1_0]; decide) (by rw [zs1_0]; decide) rfl ?_
    refine j_aload_n (pc := 44) dX6_count_44 rfl ?_
    refine j_getf (pc := 45) dX6_count_45 fl_X6_30 (by apply lkE; (with_reducible first | exact lkX_1 | exact lkX_27 | exact lkX_p | exact lkX_34 | exact lkX_35 | exact lkX_107 | exact lkX_125 | exact lkX_127 | exact lkX_28 | exact lkX_30 | exact lkX_32 | exact lkX_p1 | exact lkX_p3 | exact lkX_p5 | exact lkX_p7 | exact lkX_p9 | exact lkX_2 | exact lkX_109 | exact lkX_4 | exact lkX_d); rfl) rfl ?_
    refine j_getf (pc := 48) dX6_count_48 fl_X6_214 (by apply lkE; (with_reducible first | exact lkX_1 | exact lkX_27 | exact lkX_p | exact lkX_34 | exact lkX_35 | exact lkX_107 | exact lkX_125 | exact lkX_127 | exact lkX_28 | exact lkX_30 | exact lkX_32 | exact lkX_p1 | exact lkX_p3 | exact lkX_p5 | exact lkX_p7 | exact lkX_p9 | exact lkX_2 | exact lkX_109 | exact lkX_4 | exact lkX_d); rfl) rfl ?_
    refine j_ireturn (pc := 51) dX6_count_51 rfl ?_
    subst zs1_0
    rw [ctI, if_pos rfl] at h1
    exact h1
  by_cases zs1_1 : c = 1
  · refine j_tableIn (pc := 1) (off := 51) (tgt := 52) dX6_count_1 (by rw [zs1_1]; decide) (by rw [zs1_1]; decide) (by rw [zs1_1]; decide) rfl ?_
    refine j_aload_n (pc := 52) dX6_count_52 rfl ?_
    refine j_getf (pc := 53) dX6_count_53 fl_X6_30 (by apply lkE; (with_reducible first | exact lkX_1 | exact lkX_27 | exact lkX_p | exact lkX_34 | exact lkX_35 | exact lkX_107 | exact lkX_125 | exact lkX_127 | exact lkX_28 | exact lkX_30 | exact lkX_32 | exact lkX_p1 | exact lkX_p3 | exact lkX_p5 | exact lkX_p7 | exact lkX_p9 | exact lkX_2 | exact lkX_109 | exact lkX_4 | exact lkX_d); rfl) rfl ?_
    refine j_getf (pc := 56) dX6_count_56 fl_X6_189 (by apply lkE; (with_reducible first | exact lkX_1 | exact lkX_27 | exact lkX_p | exact lkX_34 | exact lkX_35 | exact lkX_107 | exact lkX_125 | exact lkX_127 | exact lkX_28 | exact lkX_30 | exact lkX_32 | exact lkX_p1 | exact lkX_p3 | exact lkX_p5 | exact lkX_p7 | exact lkX_p9 | exact lkX_2 | exact lkX_109 | exact lkX_4 | exact lkX_d); rfl) rfl ?_
    refine j_ireturn (pc := 59) dX6_count_59 rfl ?_
    subst zs1_1
    rw [ctI, if_neg (show ¬ (1 : Int32) = 0 by decide), if_pos rfl] at h1
    exact h1
  by_cases zs1_2 : c = 2
  · refine j_tableIn (pc := 1) (off := 59) (tgt := 60) dX6_count_1 (by rw [zs1_2]; decide) (by rw [zs1_2]; decide) (by rw [zs1_2]; decide) rfl ?_
    refine j_aload_n (pc := 60) dX6_count_60 rfl ?_
    refine j_getf (pc := 61) dX6_count_61 fl_X6_30 (by apply lkE; (with_reducible first | exact lkX_1 | exact lkX_27 | exact lkX_p | exact lkX_34 | exact lkX_35 | exact lkX_107 | exact lkX_125 | exact lkX_127 | exact lkX_28 | exact lkX_30 | exact lkX_32 | exact lkX_p1 | exact lkX_p3 | exact lkX_p5 | exact lkX_p7 | exact lkX_p9 | exact lkX_2 | exact lkX_109 | exact lkX_4 | exact lkX_d); rfl) rfl ?_
    refine j_getf (pc := 64) dX6_count_64 fl_X6_237 (by apply lkE; (with_reducible first | exact lkX_1 | exact lkX_27 | exact lkX_p | exact lkX_34 | exact lkX_35 | exact lkX_107 | exact lkX_125 | exact lkX_127 | exact lkX_28 | exact lkX_30 | exact lkX_32 | exact lkX_p1 | exact lkX_p3 | exact lkX_p5 | exact lkX_p7 | exact lkX_p9 | exact lkX_2 | exact lkX_109 | exact lkX_4 | exact lkX_d); rfl) rfl ?_
    refine j_ireturn (pc := 67) dX6_count_67 rfl ?_
    subst zs1_2
    rw [ctI, if_neg (show ¬ (2 : Int32) = 0 by decide), if_neg (show ¬ (2 : Int32) = 1 by decide), if_pos rfl] at h1
    exact h1
  by_cases zs1_3 : c = 3
  · refine j_tableIn (pc := 1) (off := 67) (tgt := 68) dX6_count_1 (by rw [zs1_3]; decide) (by rw [zs1_3]; decide) (by rw [zs1_3]; decide) rfl ?_
    refine j_aload_n (pc := 68) dX6_count_68 rfl ?_
    refine j_getf (pc := 69) dX6_count_69 fl_X6_30 (by apply lkE; (with_reducible first | exact lkX_1 | exact lkX_27 | exact lkX_p | exact lkX_34 | exact lkX_35 | exact lkX_107 | exact lkX_125 | exact lkX_127 | exact lkX_28 | exact lkX_30 | exact lkX_32 | exact lkX_p1 | exact lkX_p3 | exact lkX_p5 | exact lkX_p7 | exact lkX_p9 | exact lkX_2 | exact lkX_109 | exact lkX_4 | exact lkX_d); rfl) rfl ?_
    refine j_getf (pc := 72) dX6_count_72 fl_X6_270 (by apply lkE; (with_reducible first | exact lkX_1 | exact lkX_27 | exact lkX_p | exact lkX_34 | exact lkX_35 | exact lkX_107 | exact lkX_125 | exact lkX_127 | exact lkX_28 | exact lkX_30 | exact lkX_32 | exact lkX_p1 | exact lkX_p3 | exact lkX_p5 | exact lkX_p7 | exact lkX_p9 | exact lkX_2 | exact lkX_109 | exact lkX_4 | exact lkX_d); rfl) rfl ?_
    refine j_ireturn (pc := 75) dX6_count_75 rfl ?_
    subst zs1_3
    rw [ctI, if_neg (show ¬ (3 : Int32) = 0 by decide), if_neg (show ¬ (3 : Int32) = 1 by decide), if_neg (show ¬ (3 : Int32) = 2 by decide), if_pos rfl] at h1
    exact h1
  by_cases zs1_4 : c = 4
  · refine j_tableIn (pc := 1) (off := 75) (tgt := 76) dX6_count_1 (by rw [zs1_4]; decide) (by rw [zs1_4]; decide) (by rw [zs1_4]; decide) rfl ?_
    refine j_aload_n (pc := 76) dX6_count_76 rfl ?_
    refine j_getf (pc := 77) dX6_count_77 fl_X6_30 (by apply lkE; (with_reducible first | exact lkX_1 | exact lkX_27 | exact lkX_p | exact lkX_34 | exact lkX_35 | exact lkX_107 | exact lkX_125 | exact lkX_127 | exact lkX_28 | exact lkX_30 | exact lkX_32 | exact lkX_p1 | exact lkX_p3 | exact lkX_p5 | exact lkX_p7 | exact lkX_p9 | exact lkX_2 | exact lkX_109 | exact lkX_4 | exact lkX_d); rfl) rfl ?_
    refine j_getf (pc := 80) dX6_count_80 fl_X6_273 (by apply lkE; (with_reducible first | exact lkX_1 | exact lkX_27 | exact lkX_p | exact lkX_34 | exact lkX_35 | exact lkX_107 | exact lkX_125 | exact lkX_127 | exact lkX_28 | exact lkX_30 | exact lkX_32 | exact lkX_p1 | exact lkX_p3 | exact lkX_p5 | exact lkX_p7 | exact lkX_p9 | exact lkX_2 | exact lkX_109 | exact lkX_4 | exact lkX_d); rfl) rfl ?_
    refine j_ireturn (pc := 83) dX6_count_83 rfl ?_
    subst zs1_4
    rw [ctI, if_neg (show ¬ (4 : Int32) = 0 by decide), if_neg (show ¬ (4 : Int32) = 1 by decide), if_neg (show ¬ (4 : Int32) = 2 by decide), if_neg (show ¬ (4 : Int32) = 3 by decide), if_pos rfl] at h1
    exact h1
  by_cases zs1_5 : c = 5
  · refine j_tableIn (pc := 1) (off := 83) (tgt := 84) dX6_count_1 (by rw [zs1_5]; decide) (by rw [zs1_5]; decide) (by rw [zs1_5]; decide) rfl ?_
    refine j_aload_n (pc := 84) dX6_count_84 rfl ?_
    refine j_getf (pc := 85) dX6_count_85 fl_X6_93 (by apply lkE; (with_reducible first | exact lkX_1 | exact lkX_27 | exact lkX_p | exact lkX_34 | exact lkX_35 | exact lkX_107 | exact lkX_125 | exact lkX_127 | exact lkX_28 | exact lkX_30 | exact lkX_32 | exact lkX_p1 | exact lkX_p3 | exact lkX_p5 | exact lkX_p7 | exact lkX_p9 | exact lkX_2 | exact lkX_109 | exact lkX_4 | exact lkX_d); rfl) rfl ?_
    refine j_ireturn (pc := 88) dX6_count_88 rfl ?_
    subst zs1_5
    rw [ctI, if_neg (show ¬ (5 : Int32) = 0 by decide), if_neg (show ¬ (5 : Int32) = 1 by decide), if_neg (show ¬ (5 : Int32) = 2 by decide), if_neg (show ¬ (5 : Int32) = 3 by decide), if_neg (show ¬ (5 : Int32) = 4 by decide), if_pos rfl] at h1
    exact h1
  by_cases zs1_6 : c = 6
  · refine j_tableIn (pc := 1) (off := 88) (tgt := 89) dX6_count_1 (by rw [zs1_6]; decide) (by rw [zs1_6]; decide) (by rw [zs1_6]; decide) rfl ?_
    refine j_aload_n (pc := 89) dX6_count_89 rfl ?_
    refine j_getf (pc := 90) dX6_count_90 fl_X6_75 (by apply lkE; (with_reducible first | exact lkX_1 | exact lkX_27 | exact lkX_p | exact lkX_34 | exact lkX_35 | exact lkX_107 | exact lkX_125 | exact lkX_127 | exact lkX_28 | exact lkX_30 | exact lkX_32 | exact lkX_p1 | exact lkX_p3 | exact lkX_p5 | exact lkX_p7 | exact lkX_p9 | exact lkX_2 | exact lkX_109 | exact lkX_4 | exact lkX_d); rfl) rfl ?_
    refine j_ireturn (pc := 93) dX6_count_93 rfl ?_
    subst zs1_6
    rw [ctI, if_neg (show ¬ (6 : Int32) = 0 by decide), if_neg (show ¬ (6 : Int32) = 1 by decide), if_neg (show ¬ (6 : Int32) = 2 by decide), if_neg (show ¬ (6 : Int32) = 3 by decide), if_neg (show ¬ (6 : Int32) = 4 by decide), if_neg (show ¬ (6 : Int32) = 5 by decide), if_pos rfl] at h1
    exact h1
  exfalso
  have zt1_0 : ¬ (c).toInt = 0 := fun e => zs1_0 (Int32.toInt_inj.mp (e.trans (by decide)))
  have zt1_1 : ¬ (c).toInt = 1 := fun e => zs1_1 (Int32.toInt_inj.mp (e.trans (by decide)))
  have zt1_2 : ¬ (c).toInt = 2 := fun e => zs1_2 (Int32.toInt_inj.mp (e.trans (by decide)))
  have zt1_3 : ¬ (c).toInt = 3 := fun e => zs1_3 (Int32.toInt_inj.mp (e.trans (by decide)))
  have zt1_4 : ¬ (c).toInt = 4 := fun e => zs1_4 (Int32.toInt_inj.mp (e.trans (by decide)))
  have zt1_5 : ¬ (c).toInt = 5 := fun e => zs1_5 (Int32.toInt_inj.mp (e.trans (by decide)))
  have zt1_6 : ¬ (c).toInt = 6 := fun e => zs1_6 (Int32.toInt_inj.mp (e.trans (by decide)))
  omega

set_option maxRecDepth 20000 in
set_option maxHeartbeats 200000 in
theorem x_trace  (h1 : Q (some (.long ts)) (W1 scr tl lt lc rd sw P D S kk nx ring bu im kept tb tr tc ts)) : C g 0 0 0 mX6_trace [.ref 1] (W1 scr tl lt lc rd sw P D S kk nx ring bu im kept tb tr tc ts) Q := by
  refine C.of (by decide +kernel) (by simp [Value.category]) (Nat.le_of_ble_eq_true rfl) ?_
  change J g mX6_trace 0 0 0 _ (W1 scr tl lt lc rd sw P D S kk nx ring bu im kept tb tr tc ts) 0 [some (.ref 1)] []
  refine j_aload_n (pc := 0) dX6_trace_0 rfl ?_
  refine j_getf (pc := 1) dX6_trace_1 fl_X6_274 (by apply lkE; (with_reducible first | exact lkX_1 | exact lkX_27 | exact lkX_p | exact lkX_34 | exact lkX_35 | exact lkX_107 | exact lkX_125 | exact lkX_127 | exact lkX_28 | exact lkX_30 | exact lkX_32 | exact lkX_p1 | exact lkX_p3 | exact lkX_p5 | exact lkX_p7 | exact lkX_p9 | exact lkX_2 | exact lkX_109 | exact lkX_4 | exact lkX_d); rfl) rfl ?_
  refine j_lreturn (pc := 4) dX6_trace_4 rfl ?_
  exact h1

set_option maxRecDepth 20000 in
set_option maxHeartbeats 200000 in
theorem x_lays {i : Int32} {j q : Nat} (hnx : nx = nI j) (hj : j < 10) (hkk : kk = nI q) (hq : q ≤ 10) (h1 : jlt i P.2.2.1 = false → Q (some (.int (-1))) (W1 scr tl lt lc rd sw P D S kk nx ring bu im kept tb tr tc ts)) (h2 : jlt i P.2.2.1 = true → isCh S i = true → Q (some (.int (-2))) (W1 scr tl lt lc rd sw P D S kk nx ring bu im kept tb tr tc ts)) (h3 : jlt i P.2.2.1 = true → isCh S i = false → Q (some (.int (rdI P S i))) (W1 scr tl lt lc rd sw P D (nbS P S (rdI P S i) 0, 0, S.2.2.1, S.2.2.2.1, S.2.2.2.2.1, rPut 6 S.2.2.2.2.2 i (rdI P S i)) (nI (min (q + 1) 10)) (nI (nj j)) (updS ring j S) bu im kept tb tr tc ts)) : C g 5 0 0 mX6_lays [.ref 1, .int i] (W1 scr tl lt lc rd sw P D S kk nx ring bu im kept tb tr tc ts) Q := by
  refine C.of (by decide +kernel) (by simp [Value.category]) (Nat.le_of_ble_eq_true rfl) ?_
  change J g mX6_lays 5 0 0 _ (W1 scr tl lt lc rd sw P D S kk nx ring bu im kept tb tr tc ts) 0 [some (.ref 1), some (.int i), none] []
  refine j_aload_n (pc := 0) dX6_lays_0 rfl ?_
  refine j_getf (pc := 1) dX6_lays_1 fl_X6_30 (by apply lkE; (with_reducible first | exact lkX_1 | exact lkX_27 | exact lkX_p | exact lkX_34 | exact lkX_35 | exact lkX_107 | exact lkX_125 | exact lkX_127 | exact lkX_28 | exact lkX_30 | exact lkX_32 | exact lkX_p1 | exact lkX_p3 | exact lkX_p5 | exact lkX_p7 | exact lkX_p9 | exact lkX_2 | exact lkX_109 | exact lkX_4 | exact lkX_d); rfl) rfl ?_
  refine j_iload_n (pc := 4) dX6_lays_4 rfl ?_
  refine j_v1 (pc := 5) (ci := 1) dX6_lays_5 mc_X1_hasDead ml_X6_114 im_X1_hasDead se_X1_hasDead rfl rfl (by apply lkE; (with_reducible first | exact lkX_1 | exact lkX_27 | exact lkX_p | exact lkX_34 | exact lkX_35 | exact lkX_107 | exact lkX_125 | exact lkX_127 | exact lkX_28 | exact lkX_30 | exact lkX_32 | exact lkX_p1 | exact lkX_p3 | exact lkX_p5 | exact lkX_p7 | exact lkX_p9 | exact lkX_2 | exact lkX_109 | exact lkX_4 | exact lkX_d); rfl) (by omega) (c_hasDead (by apply lkE; (with_reducible first | exact lkX_p); rfl)) (Nat.le_of_ble_eq_true rfl) ?_
  refine j_bne (pc := 8) (tgt := 13) dX6_lays_8 rfl (fun zc8 => ?_) (fun zc8 => ?_)
  · refine j_aload_n (pc := 13) dX6_lays_13 rfl ?_
    refine j_getf (pc := 14) dX6_lays_14 fl_X6_40 (by apply lkE; (with_reducible first | exact lkX_1 | exact lkX_27 | exact lkX_p | exact lkX_34 | exact lkX_35 | exact lkX_107 | exact lkX_125 | exact lkX_127 | exact lkX_28 | exact lkX_30 | exact lkX_32 | exact lkX_p1 | exact lkX_p3 | exact lkX_p5 | exact lkX_p7 | exact lkX_p9 | exact lkX_2 | exact lkX_109 | exact lkX_4 | exact lkX_d); rfl) rfl ?_
    refine j_iload_n (pc := 17) dX6_lays_17 rfl ?_
    refine j_v1 (pc := 18) (ci := 4) dX6_lays_18 mc_X4_isChalked ml_X6_163 im_X4_isChalked se_X4_isChalked rfl rfl (by apply lkE; (with_reducible first | exact lkX_1 | exact lkX_27 | exact lkX_p | exact lkX_34 | exact lkX_35 | exact lkX_107 | exact lkX_125 | exact lkX_127 | exact lkX_28 | exact lkX_30 | exact lkX_32 | exact lkX_p1 | exact lkX_p3 | exact lkX_p5 | exact lkX_p7 | exact lkX_p9 | exact lkX_2 | exact lkX_109 | exact lkX_4 | exact lkX_d); rfl) (by omega) (c_isChalked ⟨lkX_27, lkX_28, lkX_29, lkX_30, lkX_31, lkX_32, lkX_33⟩) (Nat.le_of_ble_eq_true rfl) ?_
    refine j_beq (pc := 21) (tgt := 27) dX6_lays_21 rfl (fun zc21 => ?_) (fun zc21 => ?_)
    · refine j_aload_n (pc := 27) dX6_lays_27 rfl ?_
      refine j_getf (pc := 28) dX6_lays_28 fl_X6_51 (by apply lkE; (with_reducible first | exact lkX_1 | exact lkX_27 | exact lkX_p | exact lkX_34 | exact lkX_35 | exact lkX_107 | exact lkX_125 | exact lkX_127 | exact lkX_28 | exact lkX_30 | exact lkX_32 | exact lkX_p1 | exact lkX_p3 | exact lkX_p5 | exact lkX_p7 | exact lkX_p9 | exact lkX_2 | exact lkX_109 | exact lkX_4 | exact lkX_d); rfl) rfl ?_
      refine j_aload_n (pc := 31) dX6_lays_31 rfl ?_
      refine j_getf (pc := 32) dX6_lays_32 fl_X6_40 (by apply lkE; (with_reducible first | exact lkX_1 | exact lkX_27 | exact lkX_p | exact lkX_34 | exact lkX_35 | exact lkX_107 | exact lkX_125 | exact lkX_127 | exact lkX_28 | exact lkX_30 | exact lkX_32 | exact lkX_p1 | exact lkX_p3 | exact lkX_p5 | exact lkX_p7 | exact lkX_p9 | exact lkX_2 | exact lkX_109 | exact lkX_4 | exact lkX_d); rfl) rfl ?_
      refine j_v1n (pc := 35) (ci := 0) dX6_lays_35 mc_X0_remember ml_X6_166 im_X0_remember se_X0_remember rfl rfl (by apply lkE; (with_reducible first | exact lkX_1 | exact lkX_27 | exact lkX_p | exact lkX_34 | exact lkX_35 | exact lkX_107 | exact lkX_125 | exact lkX_127 | exact lkX_28 | exact lkX_30 | exact lkX_32 | exact lkX_p1 | exact lkX_p3 | exact lkX_p5 | exact lkX_p7 | exact lkX_p9 | exact lkX_2 | exact lkX_109 | exact lkX_4 | exact lkX_d); rfl) (by omega) (x_remember hnx hj hkk hq) (Nat.le_of_ble_eq_true rfl) ?_
      refine j_aload_n (pc := 38) dX6_lays_38 rfl ?_
      refine j_iload_n (pc := 39) dX6_lays_39 rfl ?_
      refine j_v1 (pc := 40) (ci := 6) dX6_lays_40 mc_X6_readingOf ml_X6_135 im_X6_readingOf se_X6_readingOf rfl rfl (by apply lkE; (with_reducible first | exact lkX_1 | exact lkX_27 | exact lkX_p | exact lkX_34 | exact lkX_35 | exact lkX_107 | exact lkX_125 | exact lkX_127 | exact lkX_28 | exact lkX_30 | exact lkX_32 | exact lkX_p1 | exact lkX_p3 | exact lkX_p5 | exact lkX_p7 | exact lkX_p9 | exact lkX_2 | exact lkX_109 | exact lkX_4 | exact lkX_d); rfl) (by omega) (x_readingOf) (Nat.le_of_ble_eq_true rfl) ?_
      refine j_istore_n (pc := 43) dX6_lays_43 rfl (Nat.le_of_ble_eq_true rfl) rfl ?_
      refine j_aload_n (pc := 44) dX6_lays_44 rfl ?_
      refine j_getf (pc := 45) dX6_lays_45 fl_X6_40 (by apply lkE; (with_reducible first | exact lkX_1 | exact lkX_27 | exact lkX_p | exact lkX_34 | exact lkX_35 | exact lkX_107 | exact lkX_125 | exact lkX_127 | exact lkX_28 | exact lkX_30 | exact lkX_32 | exact lkX_p1 | exact lkX_p3 | exact lkX_p5 | exact lkX_p7 | exact lkX_p9 | exact lkX_2 | exact lkX_109 | exact lkX_4 | exact lkX_d); rfl) rfl ?_
      refine j_getf (pc := 48) dX6_lays_48 fl_X6_132 (by apply lkE; (with_reducible first | exact lkX_1 | exact lkX_27 | exact lkX_p | exact lkX_34 | exact lkX_35 | exact lkX_107 | exact lkX_125 | exact lkX_127 | exact lkX_28 | exact lkX_30 | exact lkX_32 | exact lkX_p1 | exact lkX_p3 | exact lkX_p5 | exact lkX_p7 | exact lkX_p9 | exact lkX_2 | exact lkX_109 | exact lkX_4 | exact lkX_d); rfl) rfl ?_
      refine j_iload_n (pc := 51) dX6_lays_51 rfl ?_
      refine j_iload_n (pc := 52) dX6_lays_52 rfl ?_
      refine j_v2n (pc := 53) (ci := 3) dX6_lays_53 mc_X3_put ml_X6_79 im_X3_put se_X3_put rfl rfl (by apply lkE; (with_reducible first | exact lkX_1 | exact lkX_27 | exact lkX_p | exact lkX_34 | exact lkX_35 | exact lkX_107 | exact lkX_125 | exact lkX_127 | exact lkX_28 | exact lkX_30 | exact lkX_32 | exact lkX_p1 | exact lkX_p3 | exact lkX_p5 | exact lkX_p7 | exact lkX_p9 | exact lkX_2 | exact lkX_109 | exact lkX_4 | exact lkX_d); rfl) (by omega) (CD.heap upX_33 (c_put (n := 6) (by decide) lkX_32 lkX_33)) (Nat.le_of_ble_eq_true rfl) ?_
      refine j_aload_n (pc := 56) dX6_lays_56 rfl ?_
      refine j_getf (pc := 57) dX6_lays_57 fl_X6_40 (by apply lkE; (with_reducible first | exact lkX_1 | exact lkX_27 | exact lkX_p | exact lkX_34 | exact lkX_35 | exact lkX_107 | exact lkX_125 | exact lkX_127 | exact lkX_28 | exact lkX_30 | exact lkX_32 | exact lkX_p1 | exact lkX_p3 | exact lkX_p5 | exact lkX_p7 | exact lkX_p9 | exact lkX_2 | exact lkX_109 | exact lkX_4 | exact lkX_d); rfl) rfl ?_
      refine j_aload_n (pc := 60) dX6_lays_60 rfl ?_
      refine j_iload_n (pc := 61) dX6_lays_61 rfl ?_
      refine j_iconst (pc := 62) dX6_lays_62 kc_0 ?_
      refine j_v2 (pc := 63) (ci := 6) dX6_lays_63 mc_X6_needleBy ml_X6_170 im_X6_needleBy se_X6_needleBy rfl rfl (by apply lkE; (with_reducible first | exact lkX_1 | exact lkX_27 | exact lkX_p | exact lkX_34 | exact lkX_35 | exact lkX_107 | exact lkX_125 | exact lkX_127 | exact lkX_28 | exact lkX_30 | exact lkX_32 | exact lkX_p1 | exact lkX_p3 | exact lkX_p5 | exact lkX_p7 | exact lkX_p9 | exact lkX_2 | exact lkX_109 | exact lkX_4 | exact lkX_d); rfl) (by omega) (x_needleBy) (Nat.le_of_ble_eq_true rfl) ?_
      refine j_putf (pc := 66) dX6_lays_66 fl_X6_147 (jfit_i _) (by apply lkE; (with_reducible first | exact lkX_1 | exact lkX_27 | exact lkX_p | exact lkX_34 | exact lkX_35 | exact lkX_107 | exact lkX_125 | exact lkX_127 | exact lkX_28 | exact lkX_30 | exact lkX_32 | exact lkX_p1 | exact lkX_p3 | exact lkX_p5 | exact lkX_p7 | exact lkX_p9 | exact lkX_2 | exact lkX_109 | exact lkX_4 | exact lkX_d); rfl) upX_27 ?_
      refine j_aload_n (pc := 69) dX6_lays_69 rfl ?_
      refine j_getf (pc := 70) dX6_lays_70 fl_X6_40 (by apply lkE; (with_reducible first | exact lkX_1 | exact lkX_27 | exact lkX_p | exact lkX_34 | exact lkX_35 | exact lkX_107 | exact lkX_125 | exact lkX_127 | exact lkX_28 | exact lkX_30 | exact lkX_32 | exact lkX_p1 | exact lkX_p3 | exact lkX_p5 | exact lkX_p7 | exact lkX_p9 | exact lkX_2 | exact lkX_109 | exact lkX_4 | exact lkX_d); rfl) rfl ?_
      refine j_iconst (pc := 73) dX6_lays_73 kc_0 ?_
      refine j_putf (pc := 74) dX6_lays_74 fl_X6_150 (jfit_i _) (by apply lkE; (with_reducible first | exact lkX_1 | exact lkX_27 | exact lkX_p | exact lkX_34 | exact lkX_35 | exact lkX_107 | exact lkX_125 | exact lkX_127 | exact lkX_28 | exact lkX_30 | exact lkX_32 | exact lkX_p1 | exact lkX_p3 | exact lkX_p5 | exact lkX_p7 | exact lkX_p9 | exact lkX_2 | exact lkX_109 | exact lkX_4 | exact lkX_d); rfl) upX_27 ?_
      refine j_iload_n (pc := 77) dX6_lays_77 rfl ?_
      refine j_ireturn (pc := 78) dX6_lays_78 rfl ?_
      exact h3 zc8 zc21
    · refine j_bipush (pc := 24) dX6_lays_24 kb_m2 ?_
      refine j_ireturn (pc := 26) dX6_lays_26 rfl ?_
      exact h2 zc8 zc21
  · refine j_iconst (pc := 11) dX6_lays_11 kc_m1 ?_
    refine j_ireturn (pc := 12) dX6_lays_12 rfl ?_
    exact h1 zc8

set_option maxRecDepth 20000 in
set_option maxHeartbeats 200000 in
theorem x_thumbs {c : Int32} {j q : Nat} (hnx : nx = nI j) (hj : j < 10) (hkk : kk = nI q) (hq : q ≤ 10) (h1 : jin c (-9) 9 = false → Q (some (.int (-1000000))) (W1 scr tl lt lc rd sw P D S kk nx ring bu im kept tb tr tc ts)) (h2 : jin c (-9) 9 = true → Q (some (.int S.2.1)) (W1 scr tl lt lc rd sw P D (S.1, c, S.2.2.1, S.2.2.2.1, S.2.2.2.2.1, S.2.2.2.2.2) (nI (min (q + 1) 10)) (nI (nj j)) (updS ring j S) bu im kept tb tr tc ts)) : C g 5 0 0 mX6_thumbs [.ref 1, .int c] (W1 scr tl lt lc rd sw P D S kk nx ring bu im kept tb tr tc ts) Q := by
  refine C.of (by decide +kernel) (by simp [Value.category]) (Nat.le_of_ble_eq_true rfl) ?_
  change J g mX6_thumbs 5 0 0 _ (W1 scr tl lt lc rd sw P D S kk nx ring bu im kept tb tr tc ts) 0 [some (.ref 1), some (.int c), none] []
  refine j_iload_n (pc := 0) dX6_thumbs_0 rfl ?_
  refine j_bipush (pc := 1) dX6_thumbs_1 kb_m9 ?_
  refine j_bipush (pc := 3) dX6_thumbs_3 kb_9 ?_
  refine j_s3 (pc := 5) dX6_thumbs_5 mc_X6_isWithin ml_X6_71 sm_X6_isWithin (by omega) (c_isWithin) (Nat.le_of_ble_eq_true rfl) ?_
  refine j_bne (pc := 8) (tgt := 14) dX6_thumbs_8 rfl (fun zc8 => ?_) (fun zc8 => ?_)
  · refine j_aload_n (pc := 14) dX6_thumbs_14 rfl ?_
    refine j_getf (pc := 15) dX6_thumbs_15 fl_X6_51 (by apply lkE; (with_reducible first | exact lkX_1 | exact lkX_27 | exact lkX_p | exact lkX_34 | exact lkX_35 | exact lkX_107 | exact lkX_125 | exact lkX_127 | exact lkX_28 | exact lkX_30 | exact lkX_32 | exact lkX_p1 | exact lkX_p3 | exact lkX_p5 | exact lkX_p7 | exact lkX_p9 | exact lkX_2 | exact lkX_109 | exact lkX_4 | exact lkX_d); rfl) rfl ?_
    refine j_aload_n (pc := 18) dX6_thumbs_18 rfl ?_
    refine j_getf (pc := 19) dX6_thumbs_19 fl_X6_40 (by apply lkE; (with_reducible first | exact lkX_1 | exact lkX_27 | exact lkX_p | exact lkX_34 | exact lkX_35 | exact lkX_107 | exact lkX_125 | exact lkX_127 | exact lkX_28 | exact lkX_30 | exact lkX_32 | exact lkX_p1 | exact lkX_p3 | exact lkX_p5 | exact lkX_p7 | exact lkX_p9 | exact lkX_2 | exact lkX_109 | exact lkX_4 | exact lkX_d); rfl) rfl ?_
    refine j_v1n (pc := 22) (ci := 0) dX6_thumbs_22 mc_X0_remember ml_X6_166 im_X0_remember se_X0_remember rfl rfl (by apply lkE; (with_reducible first | exact lkX_1 | exact lkX_27 | exact lkX_p | exact lkX_34 | exact lkX_35 | exact lkX_107 | exact lkX_125 | exact lkX_127 | exact lkX_28 | exact lkX_30 | exact lkX_32 | exact lkX_p1 | exact lkX_p3 | exact lkX_p5 | exact lkX_p7 | exact lkX_p9 | exact lkX_2 | exact lkX_109 | exact lkX_4 | exact lkX_d); rfl) (by omega) (x_remember hnx hj hkk hq) (Nat.le_of_ble_eq_true rfl) ?_
    refine j_aload_n (pc := 25) dX6_thumbs_25 rfl ?_
    refine j_getf (pc := 26) dX6_thumbs_26 fl_X6_40 (by apply lkE; (with_reducible first | exact lkX_1 | exact lkX_27 | exact lkX_p | exact lkX_34 | exact lkX_35 | exact lkX_107 | exact lkX_125 | exact lkX_127 | exact lkX_28 | exact lkX_30 | exact lkX_32 | exact lkX_p1 | exact lkX_p3 | exact lkX_p5 | exact lkX_p7 | exact lkX_p9 | exact lkX_2 | exact lkX_109 | exact lkX_4 | exact lkX_d); rfl) rfl ?_
    refine j_getf (pc := 29) dX6_thumbs_29 fl_X6_150 (by apply lkE; (with_reducible first | exact lkX_1 | exact lkX_27 | exact lkX_p | exact lkX_34 | exact lkX_35 | exact lkX_107 | exact lkX_125 | exact lkX_127 | exact lkX_28 | exact lkX_30 | exact lkX_32 | exact lkX_p1 | exact lkX_p3 | exact lkX_p5 | exact lkX_p7 | exact lkX_p9 | exact lkX_2 | exact lkX_109 | exact lkX_4 | exact lkX_d); rfl) rfl ?_
    refine j_istore_n (pc := 32) dX6_thumbs_32 rfl (Nat.le_of_ble_eq_true rfl) rfl ?_
    refine j_aload_n (pc := 33) dX6_thumbs_33 rfl ?_
    refine j_getf (pc := 34) dX6_thumbs_34 fl_X6_40 (by apply lkE; (with_reducible first | exact lkX_1 | exact lkX_27 | exact lkX_p | exact lkX_34 | exact lkX_35 | exact lkX_107 | exact lkX_125 | exact lkX_127 | exact lkX_28 | exact lkX_30 | exact lkX_32 | exact lkX_p1 | exact lkX_p3 | exact lkX_p5 | exact lkX_p7 | exact lkX_p9 | exact lkX_2 | exact lkX_109 | exact lkX_4 | exact lkX_d); rfl) rfl ?_
    refine j_iload_n (pc := 37) dX6_thumbs_37 rfl ?_
    refine j_putf (pc := 38) dX6_thumbs_38 fl_X6_150 (jfit_i _) (by apply lkE; (with_reducible first | exact lkX_1 | exact lkX_27 | exact lkX_p | exact lkX_34 | exact lkX_35 | exact lkX_107 | exact lkX_125 | exact lkX_127 | exact lkX_28 | exact lkX_30 | exact lkX_32 | exact lkX_p1 | exact lkX_p3 | exact lkX_p5 | exact lkX_p7 | exact lkX_p9 | exact lkX_2 | exact lkX_109 | exact lkX_4 | exact lkX_d); rfl) upX_27 ?_
    refine j_iload_n (pc := 41) dX6_thumbs_41 rfl ?_
    refine j_ireturn (pc := 42) dX6_thumbs_42 rfl ?_
    exact h2 zc8
  · refine j_ldc (pc := 11) dX6_thumbs_11 ck_X6_103 ?_
    refine j_ireturn (pc := 13) dX6_thumbs_13 rfl ?_
    exact h1 zc8

set_option maxRecDepth 20000 in
set_option maxHeartbeats 200000 in
theorem x_adorns {i c : Int32} {j q : Nat} (hnx : nx = nI j) (hj : j < 10) (hkk : kk = nI q) (hq : q ≤ 10) (h1 : (jlt i P.2.2.1 && jin c 0 9) = false → Q (some (.int (-1))) (W1 scr tl lt lc rd sw P D S kk nx ring bu im kept tb tr tc ts)) (h2 : jlt i P.2.2.1 = true → jin c 0 9 = true → Q (some (.int (rAt 6 S.2.2.2.1 i))) (W1 scr tl lt lc rd sw P D (S.1, S.2.1, S.2.2.1, rPut 6 S.2.2.2.1 i c, S.2.2.2.2.1, S.2.2.2.2.2) (nI (min (q + 1) 10)) (nI (nj j)) (updS ring j S) bu im kept tb tr tc ts)) : C g 5 0 0 mX6_adorns [.ref 1, .int i, .int c] (W1 scr tl lt lc rd sw P D S kk nx ring bu im kept tb tr tc ts) Q := by
  refine C.of (by decide +kernel) (by simp [Value.category]) (Nat.le_of_ble_eq_true rfl) ?_
  change J g mX6_adorns 5 0 0 _ (W1 scr tl lt lc rd sw P D S kk nx ring bu im kept tb tr tc ts) 0 [some (.ref 1), some (.int i), some (.int c), none] []
  refine j_aload_n (pc := 0) dX6_adorns_0 rfl ?_
  refine j_getf (pc := 1) dX6_adorns_1 fl_X6_30 (by apply lkE; (with_reducible first | exact lkX_1 | exact lkX_27 | exact lkX_p | exact lkX_34 | exact lkX_35 | exact lkX_107 | exact lkX_125 | exact lkX_127 | exact lkX_28 | exact lkX_30 | exact lkX_32 | exact lkX_p1 | exact lkX_p3 | exact lkX_p5 | exact lkX_p7 | exact lkX_p9 | exact lkX_2 | exact lkX_109 | exact lkX_4 | exact lkX_d); rfl) rfl ?_
  refine j_iload_n (pc := 4) dX6_adorns_4 rfl ?_
  refine j_v1 (pc := 5) (ci := 1) dX6_adorns_5 mc_X1_hasDead ml_X6_114 im_X1_hasDead se_X1_hasDead rfl rfl (by apply lkE; (with_reducible first | exact lkX_1 | exact lkX_27 | exact lkX_p | exact lkX_34 | exact lkX_35 | exact lkX_107 | exact lkX_125 | exact lkX_127 | exact lkX_28 | exact lkX_30 | exact lkX_32 | exact lkX_p1 | exact lkX_p3 | exact lkX_p5 | exact lkX_p7 | exact lkX_p9 | exact lkX_2 | exact lkX_109 | exact lkX_4 | exact lkX_d); rfl) (by omega) (c_hasDead (by apply lkE; (with_reducible first | exact lkX_p); rfl)) (Nat.le_of_ble_eq_true rfl) ?_
  refine j_beq (pc := 8) (tgt := 21) dX6_adorns_8 rfl (fun zc8 => ?_) (fun zc8 => ?_)
  · refine j_iconst (pc := 21) dX6_adorns_21 kc_m1 ?_
    refine j_ireturn (pc := 22) dX6_adorns_22 rfl ?_
    exact h1 (by simp [*])
  · refine j_iload_n (pc := 11) dX6_adorns_11 rfl ?_
    refine j_iconst (pc := 12) dX6_adorns_12 kc_0 ?_
    refine j_bipush (pc := 13) dX6_adorns_13 kb_9 ?_
    refine j_s3 (pc := 15) dX6_adorns_15 mc_X6_isWithin ml_X6_71 sm_X6_isWithin (by omega) (c_isWithin) (Nat.le_of_ble_eq_true rfl) ?_
    refine j_bne (pc := 18) (tgt := 23) dX6_adorns_18 rfl (fun zc18 => ?_) (fun zc18 => ?_)
    · refine j_aload_n (pc := 23) dX6_adorns_23 rfl ?_
      refine j_getf (pc := 24) dX6_adorns_24 fl_X6_51 (by apply lkE; (with_reducible first | exact lkX_1 | exact lkX_27 | exact lkX_p | exact lkX_34 | exact lkX_35 | exact lkX_107 | exact lkX_125 | exact lkX_127 | exact lkX_28 | exact lkX_30 | exact lkX_32 | exact lkX_p1 | exact lkX_p3 | exact lkX_p5 | exact lkX_p7 | exact lkX_p9 | exact lkX_2 | exact lkX_109 | exact lkX_4 | exact lkX_d); rfl) rfl ?_
      refine j_aload_n (pc := 27) dX6_adorns_27 rfl ?_
      refine j_getf (pc := 28) dX6_adorns_28 fl_X6_40 (by apply lkE; (with_reducible first | exact lkX_1 | exact lkX_27 | exact lkX_p | exact lkX_34 | exact lkX_35 | exact lkX_107 | exact lkX_125 | exact lkX_127 | exact lkX_28 | exact lkX_30 | exact lkX_32 | exact lkX_p1 | exact lkX_p3 | exact lkX_p5 | exact lkX_p7 | exact lkX_p9 | exact lkX_2 | exact lkX_109 | exact lkX_4 | exact lkX_d); rfl) rfl ?_
      refine j_v1n (pc := 31) (ci := 0) dX6_adorns_31 mc_X0_remember ml_X6_166 im_X0_remember se_X0_remember rfl rfl (by apply lkE; (with_reducible first | exact lkX_1 | exact lkX_27 | exact lkX_p | exact lkX_34 | exact lkX_35 | exact lkX_107 | exact lkX_125 | exact lkX_127 | exact lkX_28 | exact lkX_30 | exact lkX_32 | exact lkX_p1 | exact lkX_p3 | exact lkX_p5 | exact lkX_p7 | exact lkX_p9 | exact lkX_2 | exact lkX_109 | exact lkX_4 | exact lkX_d); rfl) (by omega) (x_remember hnx hj hkk hq) (Nat.le_of_ble_eq_true rfl) ?_
      refine j_aload_n (pc := 34) dX6_adorns_34 rfl ?_
      refine j_getf (pc := 35) dX6_adorns_35 fl_X6_40 (by apply lkE; (with_reducible first | exact lkX_1 | exact lkX_27 | exact lkX_p | exact lkX_34 | exact lkX_35 | exact lkX_107 | exact lkX_125 | exact lkX_127 | exact lkX_28 | exact lkX_30 | exact lkX_32 | exact lkX_p1 | exact lkX_p3 | exact lkX_p5 | exact lkX_p7 | exact lkX_p9 | exact lkX_2 | exact lkX_109 | exact lkX_4 | exact lkX_d); rfl) rfl ?_
      refine j_getf (pc := 38) dX6_adorns_38 fl_X6_120 (by apply lkE; (with_reducible first | exact lkX_1 | exact lkX_27 | exact lkX_p | exact lkX_34 | exact lkX_35 | exact lkX_107 | exact lkX_125 | exact lkX_127 | exact lkX_28 | exact lkX_30 | exact lkX_32 | exact lkX_p1 | exact lkX_p3 | exact lkX_p5 | exact lkX_p7 | exact lkX_p9 | exact lkX_2 | exact lkX_109 | exact lkX_4 | exact lkX_d); rfl) rfl ?_
      refine j_iload_n (pc := 41) dX6_adorns_41 rfl ?_
      refine j_v1 (pc := 42) (ci := 3) dX6_adorns_42 mc_X3_at ml_X6_107 im_X3_at se_X3_at rfl rfl (by apply lkE; (with_reducible first | exact lkX_1 | exact lkX_27 | exact lkX_p | exact lkX_34 | exact lkX_35 | exact lkX_107 | exact lkX_125 | exact lkX_127 | exact lkX_28 | exact lkX_30 | exact lkX_32 | exact lkX_p1 | exact lkX_p3 | exact lkX_p5 | exact lkX_p7 | exact lkX_p9 | exact lkX_2 | exact lkX_109 | exact lkX_4 | exact lkX_d); rfl) (by omega) (c_at (n := 6) (by decide) lkX_28 lkX_29) (Nat.le_of_ble_eq_true rfl) ?_
      refine j_istore_n (pc := 45) dX6_adorns_45 rfl (Nat.le_of_ble_eq_true rfl) rfl ?_
      refine j_aload_n (pc := 46) dX6_adorns_46 rfl ?_
      refine j_getf (pc := 47) dX6_adorns_47 fl_X6_40 (by apply lkE; (with_reducible first | exact lkX_1 | exact lkX_27 | exact lkX_p | exact lkX_34 | exact lkX_35 | exact lkX_107 | exact lkX_125 | exact lkX_127 | exact lkX_28 | exact lkX_30 | exact lkX_32 | exact lkX_p1 | exact lkX_p3 | exact lkX_p5 | exact lkX_p7 | exact lkX_p9 | exact lkX_2 | exact lkX_109 | exact lkX_4 | exact lkX_d); rfl) rfl ?_
      refine j_getf (pc := 50) dX6_adorns_50 fl_X6_120 (by apply lkE; (with_reducible first | exact lkX_1 | exact lkX_27 | exact lkX_p | exact lkX_34 | exact lkX_35 | exact lkX_107 | exact lkX_125 | exact lkX_127 | exact lkX_28 | exact lkX_30 | exact lkX_32 | exact lkX_p1 | exact lkX_p3 | exact lkX_p5 | exact lkX_p7 | exact lkX_p9 | exact lkX_2 | exact lkX_109 | exact lkX_4 | exact lkX_d); rfl) rfl ?_
      refine j_iload_n (pc := 53) dX6_adorns_53 rfl ?_
      refine j_iload_n (pc := 54) dX6_adorns_54 rfl ?_
      refine j_v2n (pc := 55) (ci := 3) dX6_adorns_55 mc_X3_put ml_X6_79 im_X3_put se_X3_put rfl rfl (by apply lkE; (with_reducible first | exact lkX_1 | exact lkX_27 | exact lkX_p | exact lkX_34 | exact lkX_35 | exact lkX_107 | exact lkX_125 | exact lkX_127 | exact lkX_28 | exact lkX_30 | exact lkX_32 | exact lkX_p1 | exact lkX_p3 | exact lkX_p5 | exact lkX_p7 | exact lkX_p9 | exact lkX_2 | exact lkX_109 | exact lkX_4 | exact lkX_d); rfl) (by omega) (CD.heap upX_29 (c_put (n := 6) (by decide) lkX_28 lkX_29)) (Nat.le_of_ble_eq_true rfl) ?_
      refine j_iload_n (pc := 58) dX6_adorns_58 rfl ?_
      refine j_ireturn (pc := 59) dX6_adorns_59 rfl ?_
      exact h2 zc8 zc18
    · refine j_iconst (pc := 21) dX6_adorns_21 kc_m1 ?_
      refine j_ireturn (pc := 22) dX6_adorns_22 rfl ?_
      exact h1 (by simp [*])

set_option maxRecDepth 20000 in
set_option maxHeartbeats 200000 in
theorem x_sins {i c : Int32} {j q : Nat} (hnx : nx = nI j) (hj : j < 10) (hkk : kk = nI q) (hq : q ≤ 10) (h1 : (jlt i P.2.2.1 && jlt c P.2.1) = false → Q (some (.int (-1))) (W1 scr tl lt lc rd sw P D S kk nx ring bu im kept tb tr tc ts)) (h2 : jlt i P.2.2.1 = true → jlt c P.2.1 = true → (isCh S i || tbit (rAt 6 S.2.2.2.2.1 i) c) = true → Q (some (.int (-2))) (W1 scr tl lt lc rd sw P D S kk nx ring bu im kept tb tr tc ts)) (h3 : jlt i P.2.2.1 = true → jlt c P.2.1 = true → isCh S i = false → tbit (rAt 6 S.2.2.2.2.1 i) c = false → Q (some (.int (bcI (rAt 6 S.2.2.2.2.1 i) + 1))) (W1 scr tl lt lc rd sw P D (S.1, S.2.1, S.2.2.1, S.2.2.2.1, rPut 6 S.2.2.2.2.1 i (rAt 6 S.2.2.2.2.1 i ||| bitI c), S.2.2.2.2.2) (nI (min (q + 1) 10)) (nI (nj j)) (updS ring j S) bu im kept tb tr tc ts)) : C g 5 0 0 mX6_sins [.ref 1, .int i, .int c] (W1 scr tl lt lc rd sw P D S kk nx ring bu im kept tb tr tc ts) Q := by
  refine C.of (by decide +kernel) (by simp [Value.category]) (Nat.le_of_ble_eq_true rfl) ?_
  change J g mX6_sins 5 0 0 _ (W1 scr tl lt lc rd sw P D S kk nx ring bu im kept tb tr tc ts) 0 [some (.ref 1), some (.int i), some (.int c), none] []
  refine j_aload_n (pc := 0) dX6_sins_0 rfl ?_
  refine j_getf (pc := 1) dX6_sins_1 fl_X6_30 (by apply lkE; (with_reducible first | exact lkX_1 | exact lkX_27 | exact lkX_p | exact lkX_34 | exact lkX_35 | exact lkX_107 | exact lkX_125 | exact lkX_127 | exact lkX_28 | exact lkX_30 | exact lkX_32 | exact lkX_p1 | exact lkX_p3 | exact lkX_p5 | exact lkX_p7 | exact lkX_p9 | exact lkX_2 | exact lkX_109 | exact lkX_4 | exact lkX_d); rfl) rfl ?_
  refine j_iload_n (pc := 4) dX6_sins_4 rfl ?_
  refine j_v1 (pc := 5) (ci := 1) dX6_sins_5 mc_X1_hasDead ml_X6_114 im_X1_hasDead se_X1_hasDead rfl rfl (by apply lkE; (with_reducible first | exact lkX_1 | exact lkX_27 | exact lkX_p | exact lkX_34 | exact lkX_35 | exact lkX_107 | exact lkX_125 | exact lkX_127 | exact lkX_28 | exact lkX_30 | exact lkX_32 | exact lkX_p1 | exact lkX_p3 | exact lkX_p5 | exact lkX_p7 | exact lkX_p9 | exact lkX_2 | exact lkX_109 | exact lkX_4 | exact lkX_d); rfl) (by omega) (c_hasDead (by apply lkE; (with_reducible first | exact lkX_p); rfl)) (Nat.le_of_ble_eq_true rfl) ?_
  refine j_beq (pc := 8) (tgt := 22) dX6_sins_8 rfl (fun zc8 => ?_) (fun zc8 => ?_)
  · refine j_iconst (pc := 22) dX6_sins_22 kc_m1 ?_
    refine j_ireturn (pc := 23) dX6_sins_23 rfl ?_
    exact h1 (by simp [*])
  · refine j_aload_n (pc := 11) dX6_sins_11 rfl ?_
    refine j_getf (pc := 12) dX6_sins_12 fl_X6_30 (by apply lkE; (with_reducible first | exact lkX_1 | exact lkX_27 | exact lkX_p | exact lkX_34 | exact lkX_35 | exact lkX_107 | exact lkX_125 | exact lkX_127 | exact lkX_28 | exact lkX_30 | exact lkX_32 | exact lkX_p1 | exact lkX_p3 | exact lkX_p5 | exact lkX_p7 | exact lkX_p9 | exact lkX_2 | exact lkX_109 | exact lkX_4 | exact lkX_d); rfl) rfl ?_
    refine j_iload_n (pc := 15) dX6_sins_15 rfl ?_
    refine j_v1 (pc := 16) (ci := 1) dX6_sins_16 mc_X1_hasDeed ml_X6_99 im_X1_hasDeed se_X1_hasDeed rfl rfl (by apply lkE; (with_reducible first | exact lkX_1 | exact lkX_27 | exact lkX_p | exact lkX_34 | exact lkX_35 | exact lkX_107 | exact lkX_125 | exact lkX_127 | exact lkX_28 | exact lkX_30 | exact lkX_32 | exact lkX_p1 | exact lkX_p3 | exact lkX_p5 | exact lkX_p7 | exact lkX_p9 | exact lkX_2 | exact lkX_109 | exact lkX_4 | exact lkX_d); rfl) (by omega) (c_hasDeed (by apply lkE; (with_reducible first | exact lkX_p); rfl)) (Nat.le_of_ble_eq_true rfl) ?_
    refine j_bne (pc := 19) (tgt := 24) dX6_sins_19 rfl (fun zc19 => ?_) (fun zc19 => ?_)
    · refine j_aload_n (pc := 24) dX6_sins_24 rfl ?_
      refine j_getf (pc := 25) dX6_sins_25 fl_X6_40 (by apply lkE; (with_reducible first | exact lkX_1 | exact lkX_27 | exact lkX_p | exact lkX_34 | exact lkX_35 | exact lkX_107 | exact lkX_125 | exact lkX_127 | exact lkX_28 | exact lkX_30 | exact lkX_32 | exact lkX_p1 | exact lkX_p3 | exact lkX_p5 | exact lkX_p7 | exact lkX_p9 | exact lkX_2 | exact lkX_109 | exact lkX_4 | exact lkX_d); rfl) rfl ?_
      refine j_getf (pc := 28) dX6_sins_28 fl_X6_123 (by apply lkE; (with_reducible first | exact lkX_1 | exact lkX_27 | exact lkX_p | exact lkX_34 | exact lkX_35 | exact lkX_107 | exact lkX_125 | exact lkX_127 | exact lkX_28 | exact lkX_30 | exact lkX_32 | exact lkX_p1 | exact lkX_p3 | exact lkX_p5 | exact lkX_p7 | exact lkX_p9 | exact lkX_2 | exact lkX_109 | exact lkX_4 | exact lkX_d); rfl) rfl ?_
      refine j_iload_n (pc := 31) dX6_sins_31 rfl ?_
      refine j_v1 (pc := 32) (ci := 3) dX6_sins_32 mc_X3_at ml_X6_107 im_X3_at se_X3_at rfl rfl (by apply lkE; (with_reducible first | exact lkX_1 | exact lkX_27 | exact lkX_p | exact lkX_34 | exact lkX_35 | exact lkX_107 | exact lkX_125 | exact lkX_127 | exact lkX_28 | exact lkX_30 | exact lkX_32 | exact lkX_p1 | exact lkX_p3 | exact lkX_p5 | exact lkX_p7 | exact lkX_p9 | exact lkX_2 | exact lkX_109 | exact lkX_4 | exact lkX_d); rfl) (by omega) (c_at (n := 6) (by decide) lkX_30 lkX_31) (Nat.le_of_ble_eq_true rfl) ?_
      refine j_istore_n (pc := 35) dX6_sins_35 rfl (Nat.le_of_ble_eq_true rfl) rfl ?_
      refine j_aload_n (pc := 36) dX6_sins_36 rfl ?_
      refine j_getf (pc := 37) dX6_sins_37 fl_X6_40 (by apply lkE; (with_reducible first | exact lkX_1 | exact lkX_27 | exact lkX_p | exact lkX_34 | exact lkX_35 | exact lkX_107 | exact lkX_125 | exact lkX_127 | exact lkX_28 | exact lkX_30 | exact lkX_32 | exact lkX_p1 | exact lkX_p3 | exact lkX_p5 | exact lkX_p7 | exact lkX_p9 | exact lkX_2 | exact lkX_109 | exact lkX_4 | exact lkX_d); rfl) rfl ?_
      refine j_iload_n (pc := 40) dX6_sins_40 rfl ?_
      refine j_v1 (pc := 41) (ci := 4) dX6_sins_41 mc_X4_isChalked ml_X6_163 im_X4_isChalked se_X4_isChalked rfl rfl (by apply lkE; (with_reducible first | exact lkX_1 | exact lkX_27 | exact lkX_p | exact lkX_34 | exact lkX_35 | exact lkX_107 | exact lkX_125 | exact lkX_127 | exact lkX_28 | exact lkX_30 | exact lkX_32 | exact lkX_p1 | exact lkX_p3 | exact lkX_p5 | exact lkX_p7 | exact lkX_p9 | exact lkX_2 | exact lkX_109 | exact lkX_4 | exact lkX_d); rfl) (by omega) (c_isChalked ⟨lkX_27, lkX_28, lkX_29, lkX_30, lkX_31, lkX_32, lkX_33⟩) (Nat.le_of_ble_eq_true rfl) ?_
      refine j_bne (pc := 44) (tgt := 55) dX6_sins_44 rfl (fun zc44 => ?_) (fun zc44 => ?_)
      · refine j_bipush (pc := 55) dX6_sins_55 kb_m2 ?_
        refine j_ireturn (pc := 57) dX6_sins_57 rfl ?_
        exact h2 zc8 zc19 (by simp [*])
      · refine j_iload_n (pc := 47) dX6_sins_47 rfl ?_
        refine j_iload_n (pc := 48) dX6_sins_48 rfl ?_
        refine j_s2 (pc := 49) dX6_sins_49 mc_X6_isIn ml_X6_174 sm_X6_isIn (by omega) (c_isIn) (Nat.le_of_ble_eq_true rfl) ?_
        refine j_beq (pc := 52) (tgt := 58) dX6_sins_52 rfl (fun zc52 => ?_) (fun zc52 => ?_)
        · refine j_aload_n (pc := 58) dX6_sins_58 rfl ?_
          refine j_getf (pc := 59) dX6_sins_59 fl_X6_51 (by apply lkE; (with_reducible first | exact lkX_1 | exact lkX_27 | exact lkX_p | exact lkX_34 | exact lkX_35 | exact lkX_107 | exact lkX_125 | exact lkX_127 | exact lkX_28 | exact lkX_30 | exact lkX_32 | exact lkX_p1 | exact lkX_p3 | exact lkX_p5 | exact lkX_p7 | exact lkX_p9 | exact lkX_2 | exact lkX_109 | exact lkX_4 | exact lkX_d); rfl) rfl ?_
          refine j_aload_n (pc := 62) dX6_sins_62 rfl ?_
          refine j_getf (pc := 63) dX6_sins_63 fl_X6_40 (by apply lkE; (with_reducible first | exact lkX_1 | exact lkX_27 | exact lkX_p | exact lkX_34 | exact lkX_35 | exact lkX_107 | exact lkX_125 | exact lkX_127 | exact lkX_28 | exact lkX_30 | exact lkX_32 | exact lkX_p1 | exact lkX_p3 | exact lkX_p5 | exact lkX_p7 | exact lkX_p9 | exact lkX_2 | exact lkX_109 | exact lkX_4 | exact lkX_d); rfl) rfl ?_
          refine j_v1n (pc := 66) (ci := 0) dX6_sins_66 mc_X0_remember ml_X6_166 im_X0_remember se_X0_remember rfl rfl (by apply lkE; (with_reducible first | exact lkX_1 | exact lkX_27 | exact lkX_p | exact lkX_34 | exact lkX_35 | exact lkX_107 | exact lkX_125 | exact lkX_127 | exact lkX_28 | exact lkX_30 | exact lkX_32 | exact lkX_p1 | exact lkX_p3 | exact lkX_p5 | exact lkX_p7 | exact lkX_p9 | exact lkX_2 | exact lkX_109 | exact lkX_4 | exact lkX_d); rfl) (by omega) (x_remember hnx hj hkk hq) (Nat.le_of_ble_eq_true rfl) ?_
          refine j_aload_n (pc := 69) dX6_sins_69 rfl ?_
          refine j_getf (pc := 70) dX6_sins_70 fl_X6_40 (by apply lkE; (with_reducible first | exact lkX_1 | exact lkX_27 | exact lkX_p | exact lkX_34 | exact lkX_35 | exact lkX_107 | exact lkX_125 | exact lkX_127 | exact lkX_28 | exact lkX_30 | exact lkX_32 | exact lkX_p1 | exact lkX_p3 | exact lkX_p5 | exact lkX_p7 | exact lkX_p9 | exact lkX_2 | exact lkX_109 | exact lkX_4 | exact lkX_d); rfl) rfl ?_
          refine j_getf (pc := 73) dX6_sins_73 fl_X6_123 (by apply lkE; (with_reducible first | exact lkX_1 | exact lkX_27 | exact lkX_p | exact lkX_34 | exact lkX_35 | exact lkX_107 | exact lkX_125 | exact lkX_127 | exact lkX_28 | exact lkX_30 | exact lkX_32 | exact lkX_p1 | exact lkX_p3 | exact lkX_p5 | exact lkX_p7 | exact lkX_p9 | exact lkX_2 | exact lkX_109 | exact lkX_4 | exact lkX_d); rfl) rfl ?_
          refine j_iload_n (pc := 76) dX6_sins_76 rfl ?_
          refine j_iload_n (pc := 77) dX6_sins_77 rfl ?_
          refine j_iload_n (pc := 78) dX6_sins_78 rfl ?_
          refine j_s1 (pc := 79) dX6_sins_79 mc_X6_bit ml_X6_178 sm_X6_bit (by omega) (c_bit) (Nat.le_of_ble_eq_true rfl) ?_
          refine j_ior (pc := 82) dX6_sins_82 ?_
          refine j_v2n (pc := 83) (ci := 3) dX6_sins_83 mc_X3_put ml_X6_79 im_X3_put se_X3_put rfl rfl (by apply lkE; (with_reducible first | exact lkX_1 | exact lkX_27 | exact lkX_p | exact lkX_34 | exact lkX_35 | exact lkX_107 | exact lkX_125 | exact lkX_127 | exact lkX_28 | exact lkX_30 | exact lkX_32 | exact lkX_p1 | exact lkX_p3 | exact lkX_p5 | exact lkX_p7 | exact lkX_p9 | exact lkX_2 | exact lkX_109 | exact lkX_4 | exact lkX_d); rfl) (by omega) (CD.heap upX_31 (c_put (n := 6) (by decide) lkX_30 lkX_31)) (Nat.le_of_ble_eq_true rfl) ?_
          refine j_iload_n (pc := 86) dX6_sins_86 rfl ?_
          refine j_s1 (pc := 87) dX6_sins_87 mc_J6_bitCount_0f7a4 ml_X6_181 sm_J6_bitCount_0f7a4 (by omega) (c_bitCount) (Nat.le_of_ble_eq_true rfl) ?_
          refine j_iconst (pc := 90) dX6_sins_90 kc_1 ?_
          refine j_iadd (pc := 91) dX6_sins_91 ?_
          refine j_ireturn (pc := 92) dX6_sins_92 rfl ?_
          exact h3 zc8 zc19 zc44 zc52
        · refine j_bipush (pc := 55) dX6_sins_55 kb_m2 ?_
          refine j_ireturn (pc := 57) dX6_sins_57 rfl ?_
          exact h2 zc8 zc19 (by simp [*])
    · refine j_iconst (pc := 22) dX6_sins_22 kc_m1 ?_
      refine j_ireturn (pc := 23) dX6_sins_23 rfl ?_
      exact h1 (by simp [*])

set_option maxRecDepth 20000 in
set_option maxHeartbeats 200000 in
theorem x_oils {c : Int32} {j q : Nat} (hnx : nx = nI j) (hj : j < 10) (hkk : kk = nI q) (hq : q ≤ 10) (h1 : jin c 0 9 = false → Q (some (.int (-1))) (W1 scr tl lt lc rd sw P D S kk nx ring bu im kept tb tr tc ts)) (h2 : jin c 0 9 = true → Q (some (.int S.2.2.1)) (W1 scr tl lt lc rd sw P D (S.1, S.2.1, c, S.2.2.2.1, S.2.2.2.2.1, S.2.2.2.2.2) (nI (min (q + 1) 10)) (nI (nj j)) (updS ring j S) bu im kept tb tr tc ts)) : C g 5 0 0 mX6_oils [.ref 1, .int c] (W1 scr tl lt lc rd sw P D S kk nx ring bu im kept tb tr tc ts) Q := by
  refine C.of (by decide +kernel) (by simp [Value.category]) (Nat.le_of_ble_eq_true rfl) ?_
  change J g mX6_oils 5 0 0 _ (W1 scr tl lt lc rd sw P D S kk nx ring bu im kept tb tr tc ts) 0 [some (.ref 1), some (.int c), none] []
  refine j_iload_n (pc := 0) dX6_oils_0 rfl ?_
  refine j_iconst (pc := 1) dX6_oils_1 kc_0 ?_
  refine j_bipush (pc := 2) dX6_oils_2 kb_9 ?_
  refine j_s3 (pc := 4) dX6_oils_4 mc_X6_isWithin ml_X6_71 sm_X6_isWithin (by omega) (c_isWithin) (Nat.le_of_ble_eq_true rfl) ?_
  refine j_bne (pc := 7) (tgt := 12) dX6_oils_7 rfl (fun zc7 => ?_) (fun zc7 => ?_)
  · refine j_aload_n (pc := 12) dX6_oils_12 rfl ?_
    refine j_getf (pc := 13) dX6_oils_13 fl_X6_51 (by apply lkE; (with_reducible first | exact lkX_1 | exact lkX_27 | exact lkX_p | exact lkX_34 | exact lkX_35 | exact lkX_107 | exact lkX_125 | exact lkX_127 | exact lkX_28 | exact lkX_30 | exact lkX_32 | exact lkX_p1 | exact lkX_p3 | exact lkX_p5 | exact lkX_p7 | exact lkX_p9 | exact lkX_2 | exact lkX_109 | exact lkX_4 | exact lkX_d); rfl) rfl ?_
    refine j_aload_n (pc := 16) dX6_oils_16 rfl ?_
    refine j_getf (pc := 17) dX6_oils_17 fl_X6_40 (by apply lkE; (with_reducible first | exact lkX_1 | exact lkX_27 | exact lkX_p | exact lkX_34 | exact lkX_35 | exact lkX_107 | exact lkX_125 | exact lkX_127 | exact lkX_28 | exact lkX_30 | exact lkX_32 | exact lkX_p1 | exact lkX_p3 | exact lkX_p5 | exact lkX_p7 | exact lkX_p9 | exact lkX_2 | exact lkX_109 | exact lkX_4 | exact lkX_d); rfl) rfl ?_
    refine j_v1n (pc := 20) (ci := 0) dX6_oils_20 mc_X0_remember ml_X6_166 im_X0_remember se_X0_remember rfl rfl (by apply lkE; (with_reducible first | exact lkX_1 | exact lkX_27 | exact lkX_p | exact lkX_34 | exact lkX_35 | exact lkX_107 | exact lkX_125 | exact lkX_127 | exact lkX_28 | exact lkX_30 | exact lkX_32 | exact lkX_p1 | exact lkX_p3 | exact lkX_p5 | exact lkX_p7 | exact lkX_p9 | exact lkX_2 | exact lkX_109 | exact lkX_4 | exact lkX_d); rfl) (by omega) (x_remember hnx hj hkk hq) (Nat.le_of_ble_eq_true rfl) ?_
    refine j_aload_n (pc := 23) dX6_oils_23 rfl ?_
    refine j_getf (pc := 24) dX6_oils_24 fl_X6_40 (by apply lkE; (with_reducible first | exact lkX_1 | exact lkX_27 | exact lkX_p | exact lkX_34 | exact lkX_35 | exact lkX_107 | exact lkX_125 | exact lkX_127 | exact lkX_28 | exact lkX_30 | exact lkX_32 | exact lkX_p1 | exact lkX_p3 | exact lkX_p5 | exact lkX_p7 | exact lkX_p9 | exact lkX_2 | exact lkX_109 | exact lkX_4 | exact lkX_d); rfl) rfl ?_
    refine j_getf (pc := 27) dX6_oils_27 fl_X6_153 (by apply lkE; (with_reducible first | exact lkX_1 | exact lkX_27 | exact lkX_p | exact lkX_34 | exact lkX_35 | exact lkX_107 | exact lkX_125 | exact lkX_127 | exact lkX_28 | exact lkX_30 | exact lkX_32 | exact lkX_p1 | exact lkX_p3 | exact lkX_p5 | exact lkX_p7 | exact lkX_p9 | exact lkX_2 | exact lkX_109 | exact lkX_4 | exact lkX_d); rfl) rfl ?_
    refine j_istore_n (pc := 30) dX6_oils_30 rfl (Nat.le_of_ble_eq_true rfl) rfl ?_
    refine j_aload_n (pc := 31) dX6_oils_31 rfl ?_
    refine j_getf (pc := 32) dX6_oils_32 fl_X6_40 (by apply lkE; (with_reducible first | exact lkX_1 | exact lkX_27 | exact lkX_p | exact lkX_34 | exact lkX_35 | exact lkX_107 | exact lkX_125 | exact lkX_127 | exact lkX_28 | exact lkX_30 | exact lkX_32 | exact lkX_p1 | exact lkX_p3 | exact lkX_p5 | exact lkX_p7 | exact lkX_p9 | exact lkX_2 | exact lkX_109 | exact lkX_4 | exact lkX_d); rfl) rfl ?_
    refine j_iload_n (pc := 35) dX6_oils_35 rfl ?_
    refine j_putf (pc := 36) dX6_oils_36 fl_X6_153 (jfit_i _) (by apply lkE; (with_reducible first | exact lkX_1 | exact lkX_27 | exact lkX_p | exact lkX_34 | exact lkX_35 | exact lkX_107 | exact lkX_125 | exact lkX_127 | exact lkX_28 | exact lkX_30 | exact lkX_32 | exact lkX_p1 | exact lkX_p3 | exact lkX_p5 | exact lkX_p7 | exact lkX_p9 | exact lkX_2 | exact lkX_109 | exact lkX_4 | exact lkX_d); rfl) upX_27 ?_
    refine j_iload_n (pc := 39) dX6_oils_39 rfl ?_
    refine j_ireturn (pc := 40) dX6_oils_40 rfl ?_
    exact h2 zc7
  · refine j_iconst (pc := 10) dX6_oils_10 kc_m1 ?_
    refine j_ireturn (pc := 11) dX6_oils_11 rfl ?_
    exact h1 zc7

set_option maxRecDepth 20000 in
set_option maxHeartbeats 200000 in
theorem x_year {j q : Nat} (hnx : nx = nI j) (hj : j < 10) (hkk : kk = nI q) (hq : q ≤ 10) (h1 : ¬ S.2.2.1 < 9 → Q (some (.int (-2))) (W1 scr tl lt lc rd sw P D S kk nx ring bu im kept tb tr tc ts)) (h2 : S.2.2.1 < 9 → Q (some (.int (S.2.2.1 + 1))) (W1 scr tl lt lc rd sw P D (S.1, S.2.1, S.2.2.1 + 1, S.2.2.2.1, S.2.2.2.2.1, S.2.2.2.2.2) (nI (min (q + 1) 10)) (nI (nj j)) (updS ring j S) bu im kept tb tr tc ts)) : C g 5 0 0 mX6_year [.ref 1] (W1 scr tl lt lc rd sw P D S kk nx ring bu im kept tb tr tc ts) Q := by
  refine C.of (by decide +kernel) (by simp [Value.category]) (Nat.le_of_ble_eq_true rfl) ?_
  change J g mX6_year 5 0 0 _ (W1 scr tl lt lc rd sw P D S kk nx ring bu im kept tb tr tc ts) 0 [some (.ref 1)] []
  refine j_aload_n (pc := 0) dX6_year_0 rfl ?_
  refine j_getf (pc := 1) dX6_year_1 fl_X6_40 (by apply lkE; (with_reducible first | exact lkX_1 | exact lkX_27 | exact lkX_p | exact lkX_34 | exact lkX_35 | exact lkX_107 | exact lkX_125 | exact lkX_127 | exact lkX_28 | exact lkX_30 | exact lkX_32 | exact lkX_p1 | exact lkX_p3 | exact lkX_p5 | exact lkX_p7 | exact lkX_p9 | exact lkX_2 | exact lkX_109 | exact lkX_4 | exact lkX_d); rfl) rfl ?_
  refine j_getf (pc := 4) dX6_year_4 fl_X6_153 (by apply lkE; (with_reducible first | exact lkX_1 | exact lkX_27 | exact lkX_p | exact lkX_34 | exact lkX_35 | exact lkX_107 | exact lkX_125 | exact lkX_127 | exact lkX_28 | exact lkX_30 | exact lkX_32 | exact lkX_p1 | exact lkX_p3 | exact lkX_p5 | exact lkX_p7 | exact lkX_p9 | exact lkX_2 | exact lkX_109 | exact lkX_4 | exact lkX_d); rfl) rfl ?_
  refine j_bipush (pc := 7) dX6_year_7 kb_9 ?_
  refine j_icmp_lt (pc := 9) (tgt := 15) dX6_year_9 rfl (fun zc9 => ?_) (fun zc9 => ?_)
  · refine j_aload_n (pc := 15) dX6_year_15 rfl ?_
    refine j_getf (pc := 16) dX6_year_16 fl_X6_51 (by apply lkE; (with_reducible first | exact lkX_1 | exact lkX_27 | exact lkX_p | exact lkX_34 | exact lkX_35 | exact lkX_107 | exact lkX_125 | exact lkX_127 | exact lkX_28 | exact lkX_30 | exact lkX_32 | exact lkX_p1 | exact lkX_p3 | exact lkX_p5 | exact lkX_p7 | exact lkX_p9 | exact lkX_2 | exact lkX_109 | exact lkX_4 | exact lkX_d); rfl) rfl ?_
    refine j_aload_n (pc := 19) dX6_year_19 rfl ?_
    refine j_getf (pc := 20) dX6_year_20 fl_X6_40 (by apply lkE; (with_reducible first | exact lkX_1 | exact lkX_27 | exact lkX_p | exact lkX_34 | exact lkX_35 | exact lkX_107 | exact lkX_125 | exact lkX_127 | exact lkX_28 | exact lkX_30 | exact lkX_32 | exact lkX_p1 | exact lkX_p3 | exact lkX_p5 | exact lkX_p7 | exact lkX_p9 | exact lkX_2 | exact lkX_109 | exact lkX_4 | exact lkX_d); rfl) rfl ?_
    refine j_v1n (pc := 23) (ci := 0) dX6_year_23 mc_X0_remember ml_X6_166 im_X0_remember se_X0_remember rfl rfl (by apply lkE; (with_reducible first | exact lkX_1 | exact lkX_27 | exact lkX_p | exact lkX_34 | exact lkX_35 | exact lkX_107 | exact lkX_125 | exact lkX_127 | exact lkX_28 | exact lkX_30 | exact lkX_32 | exact lkX_p1 | exact lkX_p3 | exact lkX_p5 | exact lkX_p7 | exact lkX_p9 | exact lkX_2 | exact lkX_109 | exact lkX_4 | exact lkX_d); rfl) (by omega) (x_remember hnx hj hkk hq) (Nat.le_of_ble_eq_true rfl) ?_
    refine j_aload_n (pc := 26) dX6_year_26 rfl ?_
    refine j_getf (pc := 27) dX6_year_27 fl_X6_40 (by apply lkE; (with_reducible first | exact lkX_1 | exact lkX_27 | exact lkX_p | exact lkX_34 | exact lkX_35 | exact lkX_107 | exact lkX_125 | exact lkX_127 | exact lkX_28 | exact lkX_30 | exact lkX_32 | exact lkX_p1 | exact lkX_p3 | exact lkX_p5 | exact lkX_p7 | exact lkX_p9 | exact lkX_2 | exact lkX_109 | exact lkX_4 | exact lkX_d); rfl) rfl ?_
    refine j_dup (pc := 30) dX6_year_30 rfl ?_
    refine j_getf (pc := 31) dX6_year_31 fl_X6_153 (by apply lkE; (with_reducible first | exact lkX_1 | exact lkX_27 | exact lkX_p | exact lkX_34 | exact lkX_35 | exact lkX_107 | exact lkX_125 | exact lkX_127 | exact lkX_28 | exact lkX_30 | exact lkX_32 | exact lkX_p1 | exact lkX_p3 | exact lkX_p5 | exact lkX_p7 | exact lkX_p9 | exact lkX_2 | exact lkX_109 | exact lkX_4 | exact lkX_d); rfl) rfl ?_
    refine j_iconst (pc := 34) dX6_year_34 kc_1 ?_
    refine j_iadd (pc := 35) dX6_year_35 ?_
    refine j_putf (pc := 36) dX6_year_36 fl_X6_153 (jfit_i _) (by apply lkE; (with_reducible first | exact lkX_1 | exact lkX_27 | exact lkX_p | exact lkX_34 | exact lkX_35 | exact lkX_107 | exact lkX_125 | exact lkX_127 | exact lkX_28 | exact lkX_30 | exact lkX_32 | exact lkX_p1 | exact lkX_p3 | exact lkX_p5 | exact lkX_p7 | exact lkX_p9 | exact lkX_2 | exact lkX_109 | exact lkX_4 | exact lkX_d); rfl) upX_27 ?_
    refine j_aload_n (pc := 39) dX6_year_39 rfl ?_
    refine j_getf (pc := 40) dX6_year_40 fl_X6_40 (by apply lkE; (with_reducible first | exact lkX_1 | exact lkX_27 | exact lkX_p | exact lkX_34 | exact lkX_35 | exact lkX_107 | exact lkX_125 | exact lkX_127 | exact lkX_28 | exact lkX_30 | exact lkX_32 | exact lkX_p1 | exact lkX_p3 | exact lkX_p5 | exact lkX_p7 | exact lkX_p9 | exact lkX_2 | exact lkX_109 | exact lkX_4 | exact lkX_d); rfl) rfl ?_
    refine j_getf (pc := 43) dX6_year_43 fl_X6_153 (by apply lkE; (with_reducible first | exact lkX_1 | exact lkX_27 | exact lkX_p | exact lkX_34 | exact lkX_35 | exact lkX_107 | exact lkX_125 | exact lkX_127 | exact lkX_28 | exact lkX_30 | exact lkX_32 | exact lkX_p1 | exact lkX_p3 | exact lkX_p5 | exact lkX_p7 | exact lkX_p9 | exact lkX_2 | exact lkX_109 | exact lkX_4 | exact lkX_d); rfl) rfl ?_
    refine j_ireturn (pc := 46) dX6_year_46 rfl ?_
    exact h2 zc9
  · refine j_bipush (pc := 12) dX6_year_12 kb_m2 ?_
    refine j_ireturn (pc := 14) dX6_year_14 rfl ?_
    exact h1 zc9

set_option maxRecDepth 20000 in
set_option maxHeartbeats 200000 in
theorem x_undo0 (hkk : kk = 0) (h1 : Q (some (.int (-2))) (W1 scr tl lt lc rd sw P D S kk nx ring bu im kept tb tr tc ts)) : C g 5 0 0 mX6_undo [.ref 1] (W1 scr tl lt lc rd sw P D S kk nx ring bu im kept tb tr tc ts) Q := by
  refine C.of (by decide +kernel) (by simp [Value.category]) (Nat.le_of_ble_eq_true rfl) ?_
  change J g mX6_undo 5 0 0 _ (W1 scr tl lt lc rd sw P D S kk nx ring bu im kept tb tr tc ts) 0 [some (.ref 1)] []
  refine j_aload_n (pc := 0) dX6_undo_0 rfl ?_
  refine j_getf (pc := 1) dX6_undo_1 fl_X6_51 (by apply lkE; (with_reducible first | exact lkX_1 | exact lkX_27 | exact lkX_p | exact lkX_34 | exact lkX_35 | exact lkX_107 | exact lkX_125 | exact lkX_127 | exact lkX_28 | exact lkX_30 | exact lkX_32 | exact lkX_p1 | exact lkX_p3 | exact lkX_p5 | exact lkX_p7 | exact lkX_p9 | exact lkX_2 | exact lkX_109 | exact lkX_4 | exact lkX_d); rfl) rfl ?_
  refine j_getf (pc := 4) dX6_undo_4 fl_X6_160 (by apply lkE; (with_reducible first | exact lkX_1 | exact lkX_27 | exact lkX_p | exact lkX_34 | exact lkX_35 | exact lkX_107 | exact lkX_125 | exact lkX_127 | exact lkX_28 | exact lkX_30 | exact lkX_32 | exact lkX_p1 | exact lkX_p3 | exact lkX_p5 | exact lkX_p7 | exact lkX_p9 | exact lkX_2 | exact lkX_109 | exact lkX_4 | exact lkX_d); rfl) rfl ?_
  refine j_if_ne (pc := 7) (tgt := 13) dX6_undo_7 rfl (fun zc7 => absurd hkk zc7) (fun _ => ?_)
  refine j_bipush (pc := 10) dX6_undo_10 kb_m2 ?_
  refine j_ireturn (pc := 12) dX6_undo_12 rfl ?_
  exact h1

set_option maxRecDepth 20000 in
set_option maxHeartbeats 200000 in
theorem x_undo1 {j q2 : Nat} (hnx : nx = nI j) (hj : j < 10) (hkk : kk = nI (q2 + 1)) (hq : q2 < 10) (h1 : Q (some (.int (nI q2))) (W1 scr tl lt lc rd sw P D (ring (pj j)) (nI q2) (nI (pj j)) ring bu im kept tb tr tc ts)) : C g 5 0 0 mX6_undo [.ref 1] (W1 scr tl lt lc rd sw P D S kk nx ring bu im kept tb tr tc ts) Q := by
  refine C.of (by decide +kernel) (by simp [Value.category]) (Nat.le_of_ble_eq_true rfl) ?_
  change J g mX6_undo 5 0 0 _ (W1 scr tl lt lc rd sw P D S kk nx ring bu im kept tb tr tc ts) 0 [some (.ref 1)] []
  refine j_aload_n (pc := 0) dX6_undo_0 rfl ?_
  refine j_getf (pc := 1) dX6_undo_1 fl_X6_51 (by apply lkE; (with_reducible first | exact lkX_1 | exact lkX_27 | exact lkX_p | exact lkX_34 | exact lkX_35 | exact lkX_107 | exact lkX_125 | exact lkX_127 | exact lkX_28 | exact lkX_30 | exact lkX_32 | exact lkX_p1 | exact lkX_p3 | exact lkX_p5 | exact lkX_p7 | exact lkX_p9 | exact lkX_2 | exact lkX_109 | exact lkX_4 | exact lkX_d); rfl) rfl ?_
  refine j_getf (pc := 4) dX6_undo_4 fl_X6_160 (by apply lkE; (with_reducible first | exact lkX_1 | exact lkX_27 | exact lkX_p | exact lkX_34 | exact lkX_35 | exact lkX_107 | exact lkX_125 | exact lkX_127 | exact lkX_28 | exact lkX_30 | exact lkX_32 | exact lkX_p1 | exact lkX_p3 | exact lkX_p5 | exact lkX_p7 | exact lkX_p9 | exact lkX_2 | exact lkX_109 | exact lkX_4 | exact lkX_d); rfl) rfl ?_
  refine j_if_ne (pc := 7) (tgt := 13) dX6_undo_7 rfl (fun _ => ?_) (fun zc7 => absurd zc7 (by rw [hkk]; exact nI_ne0 (n := q2 + 1) (by omega) (by omega)))
  refine j_aload_n (pc := 13) dX6_undo_13 rfl ?_
  refine j_getf (pc := 14) dX6_undo_14 fl_X6_51 (by apply lkE; (with_reducible first | exact lkX_1 | exact lkX_27 | exact lkX_p | exact lkX_34 | exact lkX_35 | exact lkX_107 | exact lkX_125 | exact lkX_127 | exact lkX_28 | exact lkX_30 | exact lkX_32 | exact lkX_p1 | exact lkX_p3 | exact lkX_p5 | exact lkX_p7 | exact lkX_p9 | exact lkX_2 | exact lkX_109 | exact lkX_4 | exact lkX_d); rfl) rfl ?_
  refine j_aload_n (pc := 17) dX6_undo_17 rfl ?_
  refine j_getf (pc := 18) dX6_undo_18 fl_X6_40 (by apply lkE; (with_reducible first | exact lkX_1 | exact lkX_27 | exact lkX_p | exact lkX_34 | exact lkX_35 | exact lkX_107 | exact lkX_125 | exact lkX_127 | exact lkX_28 | exact lkX_30 | exact lkX_32 | exact lkX_p1 | exact lkX_p3 | exact lkX_p5 | exact lkX_p7 | exact lkX_p9 | exact lkX_2 | exact lkX_109 | exact lkX_4 | exact lkX_d); rfl) rfl ?_
  refine j_v1n (pc := 21) (ci := 0) dX6_undo_21 mc_X0_recall ml_X6_186 im_X0_recall se_X0_recall rfl rfl (by apply lkE; (with_reducible first | exact lkX_1 | exact lkX_27 | exact lkX_p | exact lkX_34 | exact lkX_35 | exact lkX_107 | exact lkX_125 | exact lkX_127 | exact lkX_28 | exact lkX_30 | exact lkX_32 | exact lkX_p1 | exact lkX_p3 | exact lkX_p5 | exact lkX_p7 | exact lkX_p9 | exact lkX_2 | exact lkX_109 | exact lkX_4 | exact lkX_d); rfl) (by omega) (x_recall hnx hj hkk hq) (Nat.le_of_ble_eq_true rfl) ?_
  refine j_aload_n (pc := 24) dX6_undo_24 rfl ?_
  refine j_getf (pc := 25) dX6_undo_25 fl_X6_51 (by apply lkE; (with_reducible first | exact lkX_1 | exact lkX_27 | exact lkX_p | exact lkX_34 | exact lkX_35 | exact lkX_107 | exact lkX_125 | exact lkX_127 | exact lkX_28 | exact lkX_30 | exact lkX_32 | exact lkX_p1 | exact lkX_p3 | exact lkX_p5 | exact lkX_p7 | exact lkX_p9 | exact lkX_2 | exact lkX_109 | exact lkX_4 | exact lkX_d); rfl) rfl ?_
  refine j_getf (pc := 28) dX6_undo_28 fl_X6_160 (by apply lkE; (with_reducible first | exact lkX_1 | exact lkX_27 | exact lkX_p | exact lkX_34 | exact lkX_35 | exact lkX_107 | exact lkX_125 | exact lkX_127 | exact lkX_28 | exact lkX_30 | exact lkX_32 | exact lkX_p1 | exact lkX_p3 | exact lkX_p5 | exact lkX_p7 | exact lkX_p9 | exact lkX_2 | exact lkX_109 | exact lkX_4 | exact lkX_d); rfl) rfl ?_
  refine j_ireturn (pc := 31) dX6_undo_31 rfl ?_
  exact h1

set_option maxRecDepth 20000 in
set_option maxHeartbeats 200000 in
theorem x_tells {b v : Int32} (h1 : (jin b 1 40 && jin v 0 99) = false → Q (some (.int (-1))) (W1 scr tl lt lc rd sw P D S kk nx ring bu im kept tb tr tc ts)) (h2 : jin b 1 40 = true → jin v 0 99 = true → ¬ tc < 6 → Q (some (.int (-3))) (W1 scr tl lt lc rd sw P D S kk nx ring bu im kept tb tr tc ts)) (h3 : jin b 1 40 = true → jin v 0 99 = true → tc < 6 → Q (some (.int (tc + 1))) (W1 scr tl lt lc rd sw P D S kk nx ring bu im kept (rPut 6 tb tc b) (rPut 6 tr tc v) (tc + 1) ts)) : C g 1 0 0 mX6_tells [.ref 1, .int b, .int v] (W1 scr tl lt lc rd sw P D S kk nx ring bu im kept tb tr tc ts) Q := by
  refine C.of (by decide +kernel) (by simp [Value.category]) (Nat.le_of_ble_eq_true rfl) ?_
  change J g mX6_tells 1 0 0 _ (W1 scr tl lt lc rd sw P D S kk nx ring bu im kept tb tr tc ts) 0 [some (.ref 1), some (.int b), some (.int v)] []
  refine j_iload_n (pc := 0) dX6_tells_0 rfl ?_
  refine j_iconst (pc := 1) dX6_tells_1 kc_1 ?_
  refine j_bipush (pc := 2) dX6_tells_2 kb_40 ?_
  refine j_s3 (pc := 4) dX6_tells_4 mc_X6_isWithin ml_X6_71 sm_X6_isWithin (by omega) (c_isWithin) (Nat.le_of_ble_eq_true rfl) ?_
  refine j_beq (pc := 7) (tgt := 20) dX6_tells_7 rfl (fun zc7 => ?_) (fun zc7 => ?_)
  · refine j_iconst (pc := 20) dX6_tells_20 kc_m1 ?_
    refine j_ireturn (pc := 21) dX6_tells_21 rfl ?_
    exact h1 (by simp [*])
  · refine j_iload_n (pc := 10) dX6_tells_10 rfl ?_
    refine j_iconst (pc := 11) dX6_tells_11 kc_0 ?_
    refine j_bipush (pc := 12) dX6_tells_12 kb_99 ?_
    refine j_s3 (pc := 14) dX6_tells_14 mc_X6_isWithin ml_X6_71 sm_X6_isWithin (by omega) (c_isWithin) (Nat.le_of_ble_eq_true rfl) ?_
    refine j_bne (pc := 17) (tgt := 22) dX6_tells_17 rfl (fun zc17 => ?_) (fun zc17 => ?_)
    · refine j_aload_n (pc := 22) dX6_tells_22 rfl ?_
      refine j_getf (pc := 23) dX6_tells_23 fl_X6_93 (by apply lkE; (with_reducible first | exact lkX_1 | exact lkX_27 | exact lkX_p | exact lkX_34 | exact lkX_35 | exact lkX_107 | exact lkX_125 | exact lkX_127 | exact lkX_28 | exact lkX_30 | exact lkX_32 | exact lkX_p1 | exact lkX_p3 | exact lkX_p5 | exact lkX_p7 | exact lkX_p9 | exact lkX_2 | exact lkX_109 | exact lkX_4 | exact lkX_d); rfl) rfl ?_
      refine j_bipush (pc := 26) dX6_tells_26 kb_6 ?_
      refine j_icmp_lt (pc := 28) (tgt := 34) dX6_tells_28 rfl (fun zc28 => ?_) (fun zc28 => ?_)
      · refine j_aload_n (pc := 34) dX6_tells_34 rfl ?_
        refine j_getf (pc := 35) dX6_tells_35 fl_X6_65 (by apply lkE; (with_reducible first | exact lkX_1 | exact lkX_27 | exact lkX_p | exact lkX_34 | exact lkX_35 | exact lkX_107 | exact lkX_125 | exact lkX_127 | exact lkX_28 | exact lkX_30 | exact lkX_32 | exact lkX_p1 | exact lkX_p3 | exact lkX_p5 | exact lkX_p7 | exact lkX_p9 | exact lkX_2 | exact lkX_109 | exact lkX_4 | exact lkX_d); rfl) rfl ?_
        refine j_aload_n (pc := 38) dX6_tells_38 rfl ?_
        refine j_getf (pc := 39) dX6_tells_39 fl_X6_93 (by apply lkE; (with_reducible first | exact lkX_1 | exact lkX_27 | exact lkX_p | exact lkX_34 | exact lkX_35 | exact lkX_107 | exact lkX_125 | exact lkX_127 | exact lkX_28 | exact lkX_30 | exact lkX_32 | exact lkX_p1 | exact lkX_p3 | exact lkX_p5 | exact lkX_p7 | exact lkX_p9 | exact lkX_2 | exact lkX_109 | exact lkX_4 | exact lkX_d); rfl) rfl ?_
        refine j_iload_n (pc := 42) dX6_tells_42 rfl ?_
        refine j_v2n (pc := 43) (ci := 3) dX6_tells_43 mc_X3_put ml_X6_79 im_X3_put se_X3_put rfl rfl (by apply lkE; (with_reducible first | exact lkX_1 | exact lkX_27 | exact lkX_p | exact lkX_34 | exact lkX_35 | exact lkX_107 | exact lkX_125 | exact lkX_127 | exact lkX_28 | exact lkX_30 | exact lkX_32 | exact lkX_p1 | exact lkX_p3 | exact lkX_p5 | exact lkX_p7 | exact lkX_p9 | exact lkX_2 | exact lkX_109 | exact lkX_4 | exact lkX_d); rfl) (by omega) (CD.heap upX_126 (c_put (n := 6) (by decide) lkX_125 lkX_126)) (Nat.le_of_ble_eq_true rfl) ?_
        refine j_aload_n (pc := 46) dX6_tells_46 rfl ?_
        refine j_getf (pc := 47) dX6_tells_47 fl_X6_68 (by apply lkE; (with_reducible first | exact lkX_1 | exact lkX_27 | exact lkX_p | exact lkX_34 | exact lkX_35 | exact lkX_107 | exact lkX_125 | exact lkX_127 | exact lkX_28 | exact lkX_30 | exact lkX_32 | exact lkX_p1 | exact lkX_p3 | exact lkX_p5 | exact lkX_p7 | exact lkX_p9 | exact lkX_2 | exact lkX_109 | exact lkX_4 | exact lkX_d); rfl) rfl ?_
        refine j_aload_n (pc := 50) dX6_tells_50 rfl ?_
        refine j_getf (pc := 51) dX6_tells_51 fl_X6_93 (by apply lkE; (with_reducible first | exact lkX_1 | exact lkX_27 | exact lkX_p | exact lkX_34 | exact lkX_35 | exact lkX_107 | exact lkX_125 | exact lkX_127 | exact lkX_28 | exact lkX_30 | exact lkX_32 | exact lkX_p1 | exact lkX_p3 | exact lkX_p5 | exact lkX_p7 | exact lkX_p9 | exact lkX_2 | exact lkX_109 | exact lkX_4 | exact lkX_d); rfl) rfl ?_
        refine j_iload_n (pc := 54) dX6_tells_54 rfl ?_
        refine j_v2n (pc := 55) (ci := 3) dX6_tells_55 mc_X3_put ml_X6_79 im_X3_put se_X3_put rfl rfl (by apply lkE; (with_reducible first | exact lkX_1 | exact lkX_27 | exact lkX_p | exact lkX_34 | exact lkX_35 | exact lkX_107 | exact lkX_125 | exact lkX_127 | exact lkX_28 | exact lkX_30 | exact lkX_32 | exact lkX_p1 | exact lkX_p3 | exact lkX_p5 | exact lkX_p7 | exact lkX_p9 | exact lkX_2 | exact lkX_109 | exact lkX_4 | exact lkX_d); rfl) (by omega) (CD.heap upX_128 (c_put (n := 6) (by decide) lkX_127 lkX_128)) (Nat.le_of_ble_eq_true rfl) ?_
        refine j_aload_n (pc := 58) dX6_tells_58 rfl ?_
        refine j_dup (pc := 59) dX6_tells_59 rfl ?_
        refine j_getf (pc := 60) dX6_tells_60 fl_X6_93 (by apply lkE; (with_reducible first | exact lkX_1 | exact lkX_27 | exact lkX_p | exact lkX_34 | exact lkX_35 | exact lkX_107 | exact lkX_125 | exact lkX_127 | exact lkX_28 | exact lkX_30 | exact lkX_32 | exact lkX_p1 | exact lkX_p3 | exact lkX_p5 | exact lkX_p7 | exact lkX_p9 | exact lkX_2 | exact lkX_109 | exact lkX_4 | exact lkX_d); rfl) rfl ?_
        refine j_iconst (pc := 63) dX6_tells_63 kc_1 ?_
        refine j_iadd (pc := 64) dX6_tells_64 ?_
        refine j_putf (pc := 65) dX6_tells_65 fl_X6_93 (jfit_i _) (by apply lkE; (with_reducible first | exact lkX_1 | exact lkX_27 | exact lkX_p | exact lkX_34 | exact lkX_35 | exact lkX_107 | exact lkX_125 | exact lkX_127 | exact lkX_28 | exact lkX_30 | exact lkX_32 | exact lkX_p1 | exact lkX_p3 | exact lkX_p5 | exact lkX_p7 | exact lkX_p9 | exact lkX_2 | exact lkX_109 | exact lkX_4 | exact lkX_d); rfl) upX_1 ?_
        refine j_aload_n (pc := 68) dX6_tells_68 rfl ?_
        refine j_getf (pc := 69) dX6_tells_69 fl_X6_93 (by apply lkE; (with_reducible first | exact lkX_1 | exact lkX_27 | exact lkX_p | exact lkX_34 | exact lkX_35 | exact lkX_107 | exact lkX_125 | exact lkX_127 | exact lkX_28 | exact lkX_30 | exact lkX_32 | exact lkX_p1 | exact lkX_p3 | exact lkX_p5 | exact lkX_p7 | exact lkX_p9 | exact lkX_2 | exact lkX_109 | exact lkX_4 | exact lkX_d); rfl) rfl ?_
        refine j_ireturn (pc := 72) dX6_tells_72 rfl ?_
        exact h3 zc7 zc17 zc28
      · refine j_bipush (pc := 31) dX6_tells_31 kb_m3 ?_
        refine j_ireturn (pc := 33) dX6_tells_33 rfl ?_
        exact h2 zc7 zc17 zc28
    · refine j_iconst (pc := 20) dX6_tells_20 kc_m1 ?_
      refine j_ireturn (pc := 21) dX6_tells_21 rfl ?_
      exact h1 (by simp [*])

set_option maxRecDepth 20000 in
set_option maxHeartbeats 200000 in
theorem x_forget  (h1 : Q (some (.int tc)) (W1 scr tl lt lc rd sw P D S kk nx ring bu im kept tb tr (0) ts)) : C g 0 0 0 mX6_forget [.ref 1] (W1 scr tl lt lc rd sw P D S kk nx ring bu im kept tb tr tc ts) Q := by
  refine C.of (by decide +kernel) (by simp [Value.category]) (Nat.le_of_ble_eq_true rfl) ?_
  change J g mX6_forget 0 0 0 _ (W1 scr tl lt lc rd sw P D S kk nx ring bu im kept tb tr tc ts) 0 [some (.ref 1), none] []
  refine j_aload_n (pc := 0) dX6_forget_0 rfl ?_
  refine j_getf (pc := 1) dX6_forget_1 fl_X6_93 (by apply lkE; (with_reducible first | exact lkX_1 | exact lkX_27 | exact lkX_p | exact lkX_34 | exact lkX_35 | exact lkX_107 | exact lkX_125 | exact lkX_127 | exact lkX_28 | exact lkX_30 | exact lkX_32 | exact lkX_p1 | exact lkX_p3 | exact lkX_p5 | exact lkX_p7 | exact lkX_p9 | exact lkX_2 | exact lkX_109 | exact lkX_4 | exact lkX_d); rfl) rfl ?_
  refine j_istore_n (pc := 4) dX6_forget_4 rfl (Nat.le_of_ble_eq_true rfl) rfl ?_
  refine j_aload_n (pc := 5) dX6_forget_5 rfl ?_
  refine j_iconst (pc := 6) dX6_forget_6 kc_0 ?_
  refine j_putf (pc := 7) dX6_forget_7 fl_X6_93 (jfit_i _) (by apply lkE; (with_reducible first | exact lkX_1 | exact lkX_27 | exact lkX_p | exact lkX_34 | exact lkX_35 | exact lkX_107 | exact lkX_125 | exact lkX_127 | exact lkX_28 | exact lkX_30 | exact lkX_32 | exact lkX_p1 | exact lkX_p3 | exact lkX_p5 | exact lkX_p7 | exact lkX_p9 | exact lkX_2 | exact lkX_109 | exact lkX_4 | exact lkX_d); rfl) upX_1 ?_
  refine j_iload_n (pc := 10) dX6_forget_10 rfl ?_
  refine j_ireturn (pc := 11) dX6_forget_11 rfl ?_
  exact h1

def cnI (P : ParV) (S : ScV) (tb tr : Fn) (nt ne : Nat) (c : Int32) : Int32 := if c = 0 then swI P S tb tr nt ne 0 else if c = 1 then daI P S tb tr nt ne else if c = 2 then iter (dsStep P S tb tr nt ne) ne 0 0 else -1
set_option maxRecDepth 20000 in
set_option maxHeartbeats 200000 in
theorem x_can {c : Int32} {nt : Nat} (htc : tc = nI nt) (hnt : nt ≤ 6) {ne : Nat} (hde : P.2.1 = nI ne) (hne : ne ≤ 6) (h1 : Q (some (.int (cnI P S tb tr nt ne c))) (W1 scr tl lt lc rd sw P D S kk nx ring bu im kept tb tr tc ts)) : C g 5 0 0 mX6_can [.ref 1, .int c] (W1 scr tl lt lc rd sw P D S kk nx ring bu im kept tb tr tc ts) Q := by
  refine C.of (by decide +kernel) (by simp [Value.category]) (Nat.le_of_ble_eq_true rfl) ?_
  change J g mX6_can 5 0 0 _ (W1 scr tl lt lc rd sw P D S kk nx ring bu im kept tb tr tc ts) 0 [some (.ref 1), some (.int c)] []
  refine j_iload_n (pc := 0) dX6_can_0 rfl ?_
  by_cases zs1 : (c).toInt < 0 ∨ 2 < (c).toInt
  · refine j_tableOut (pc := 1) (tgt := 44) dX6_can_1 zs1 rfl ?_
    refine j_iconst (pc := 44) dX6_can_44 kc_m1 ?_
    refine j_ireturn (pc := 45) dX6_can_45 rfl ?_
    rw [cnI, if_neg (show ¬ c = 0 from fun e => by subst e; exact absurd zs1 (by decide)), if_neg (show ¬ c = 1 from fun e => by subst e; exact absurd zs1 (by decide)), if_neg (show ¬ c = 2 from fun e => by subst e; exact absurd zs1 (by decide))] at h1
    exact h1
  by_cases zs1_0 : c = 0
  · refine j_tableIn (pc := 1) (off := 27) (tgt := 28) dX6_can_1 (by rw [zs1_0]; decide) (by rw [zs1_0]; decide) (by rw [zs1_0]; decide) rfl ?_
    refine j_aload_n (pc := 28) dX6_can_28 rfl ?_
    refine j_iconst (pc := 29) dX6_can_29 kc_0 ?_
    refine j_v1 (pc := 30) (ci := 6) dX6_can_30 mc_X6_setsWith ml_X6_205 im_X6_setsWith se_X6_setsWith rfl rfl (by apply lkE; (with_reducible first | exact lkX_1 | exact lkX_27 | exact lkX_p | exact lkX_34 | exact lkX_35 | exact lkX_107 | exact lkX_125 | exact lkX_127 | exact lkX_28 | exact lkX_30 | exact lkX_32 | exact lkX_p1 | exact lkX_p3 | exact lkX_p5 | exact lkX_p7 | exact lkX_p9 | exact lkX_2 | exact lkX_109 | exact lkX_4 | exact lkX_d); rfl) (by omega) (x_setsWith htc hnt hde hne) (Nat.le_of_ble_eq_true rfl) ?_
    refine j_ireturn (pc := 33) dX6_can_33 rfl ?_
    subst zs1_0
    rw [cnI, if_pos rfl] at h1
    exact h1
  by_cases zs1_1 : c = 1
  · refine j_tableIn (pc := 1) (off := 33) (tgt := 34) dX6_can_1 (by rw [zs1_1]; decide) (by rw [zs1_1]; decide) (by rw [zs1_1]; decide) rfl ?_
    refine j_aload_n (pc := 34) dX6_can_34 rfl ?_
    refine j_v0 (pc := 35) (ci := 6) dX6_can_35 mc_X6_deedsInAllSets ml_X6_208 im_X6_deedsInAllSets se_X6_deedsInAllSets rfl rfl (by apply lkE; (with_reducible first | exact lkX_1 | exact lkX_27 | exact lkX_p | exact lkX_34 | exact lkX_35 | exact lkX_107 | exact lkX_125 | exact lkX_127 | exact lkX_28 | exact lkX_30 | exact lkX_32 | exact lkX_p1 | exact lkX_p3 | exact lkX_p5 | exact lkX_p7 | exact lkX_p9 | exact lkX_2 | exact lkX_109 | exact lkX_4 | exact lkX_d); rfl) (by omega) (x_deedsInAll htc hnt hde hne) (Nat.le_of_ble_eq_true rfl) ?_
    refine j_ireturn (pc := 38) dX6_can_38 rfl ?_
    subst zs1_1
    rw [cnI, if_neg (show ¬ (1 : Int32) = 0 by decide), if_pos rfl] at h1
    exact h1
  by_cases zs1_2 : c = 2
  · refine j_tableIn (pc := 1) (off := 38) (tgt := 39) dX6_can_1 (by rw [zs1_2]; decide) (by rw [zs1_2]; decide) (by rw [zs1_2]; decide) rfl ?_
    refine j_aload_n (pc := 39) dX6_can_39 rfl ?_
    refine j_v0 (pc := 40) (ci := 6) dX6_can_40 mc_X6_deedsInSomeSets ml_X6_211 im_X6_deedsInSomeSets se_X6_deedsInSomeSets rfl rfl (by apply lkE; (with_reducible first | exact lkX_1 | exact lkX_27 | exact lkX_p | exact lkX_34 | exact lkX_35 | exact lkX_107 | exact lkX_125 | exact lkX_127 | exact lkX_28 | exact lkX_30 | exact lkX_32 | exact lkX_p1 | exact lkX_p3 | exact lkX_p5 | exact lkX_p7 | exact lkX_p9 | exact lkX_2 | exact lkX_109 | exact lkX_4 | exact lkX_d); rfl) (by omega) (x_deedsInSome htc hnt hde hne) (Nat.le_of_ble_eq_true rfl) ?_
    refine j_ireturn (pc := 43) dX6_can_43 rfl ?_
    subst zs1_2
    rw [cnI, if_neg (show ¬ (2 : Int32) = 0 by decide), if_neg (show ¬ (2 : Int32) = 1 by decide), if_pos rfl] at h1
    exact h1
  exfalso
  have zt1_0 : ¬ (c).toInt = 0 := fun e => zs1_0 (Int32.toInt_inj.mp (e.trans (by decide)))
  have zt1_1 : ¬ (c).toInt = 1 := fun e => zs1_1 (Int32.toInt_inj.mp (e.trans (by decide)))
  have zt1_2 : ¬ (c).toInt = 2 := fun e => zs1_2 (Int32.toInt_inj.mp (e.trans (by decide)))
  omega

set_option maxRecDepth 20000 in
set_option maxHeartbeats 200000 in
theorem x_keep {c : Int32} (h1 : jin c 0 1 = false → Q (some (.int (-1))) (W1 scr tl lt lc rd sw P D S kk nx ring bu im kept tb tr tc ts)) (h2 : ∀ j : Nat, j < 2 → c = nI j → Q (some (.int S.1)) (W1 scr tl lt lc rd sw P D S kk nx ring bu (updS im j S) (kept ||| bitI (nI j)) tb tr tc ts)) : C g 4 0 0 mX6_keep [.ref 1, .int c] (W1 scr tl lt lc rd sw P D S kk nx ring bu im kept tb tr tc ts) Q := by
  refine C.of (by decide +kernel) (by simp [Value.category]) (Nat.le_of_ble_eq_true rfl) ?_
  change J g mX6_keep 4 0 0 _ (W1 scr tl lt lc rd sw P D S kk nx ring bu im kept tb tr tc ts) 0 [some (.ref 1), some (.int c)] []
  refine j_iload_n (pc := 0) dX6_keep_0 rfl ?_
  refine j_iconst (pc := 1) dX6_keep_1 kc_0 ?_
  refine j_iconst (pc := 2) dX6_keep_2 kc_1 ?_
  refine j_s3 (pc := 3) dX6_keep_3 mc_X6_isWithin ml_X6_71 sm_X6_isWithin (by omega) (c_isWithin) (Nat.le_of_ble_eq_true rfl) ?_
  refine j_bne (pc := 6) (tgt := 11) dX6_keep_6 rfl (fun zc6 => ?_) (fun zc6 => ?_)
  · obtain ⟨j, hj, rfl⟩ := jin_nat (n := 1) (by decide) zc6
    have hj2 : j < 2 := by omega
    refine j_aload_n (pc := 11) dX6_keep_11 rfl ?_
    refine j_getf (pc := 12) dX6_keep_12 fl_X6_61 (by apply lkE; (with_reducible first | exact lkX_1 | exact lkX_27 | exact lkX_p | exact lkX_34 | exact lkX_35 | exact lkX_107 | exact lkX_125 | exact lkX_127 | exact lkX_28 | exact lkX_30 | exact lkX_32 | exact lkX_p1 | exact lkX_p3 | exact lkX_p5 | exact lkX_p7 | exact lkX_p9 | exact lkX_2 | exact lkX_109 | exact lkX_4 | exact lkX_d); rfl) rfl ?_
    refine j_iload_n (pc := 15) dX6_keep_15 rfl ?_
    refine j_aload_n (pc := 16) dX6_keep_16 rfl ?_
    refine j_getf (pc := 17) dX6_keep_17 fl_X6_40 (by apply lkE; (with_reducible first | exact lkX_1 | exact lkX_27 | exact lkX_p | exact lkX_34 | exact lkX_35 | exact lkX_107 | exact lkX_125 | exact lkX_127 | exact lkX_28 | exact lkX_30 | exact lkX_32 | exact lkX_p1 | exact lkX_p3 | exact lkX_p5 | exact lkX_p7 | exact lkX_p9 | exact lkX_2 | exact lkX_109 | exact lkX_4 | exact lkX_d); rfl) rfl ?_
    refine j_v2n (pc := 20) (ci := 5) dX6_keep_20 mc_X5_put ml_X6_264 im_X5_put se_X5_put rfl rfl (by apply lkE; (with_reducible first | exact lkX_1 | exact lkX_27 | exact lkX_p | exact lkX_34 | exact lkX_35 | exact lkX_107 | exact lkX_125 | exact lkX_127 | exact lkX_28 | exact lkX_30 | exact lkX_32 | exact lkX_p1 | exact lkX_p3 | exact lkX_p5 | exact lkX_p7 | exact lkX_p9 | exact lkX_2 | exact lkX_109 | exact lkX_4 | exact lkX_d); rfl) (by omega) (CD.heap (im_set (j := j) hj2) (c_shPut (j := j) lkX_109 lkX_110 (show imC.2.length = 2 from rfl) (by decide) hj2 (im_v hj2) (im_at hj2) ⟨lkX_27, lkX_28, lkX_29, lkX_30, lkX_31, lkX_32, lkX_33⟩ (by omega))) (Nat.le_of_ble_eq_true rfl) ?_
    refine j_aload_n (pc := 23) dX6_keep_23 rfl ?_
    refine j_dup (pc := 24) dX6_keep_24 rfl ?_
    refine j_getf (pc := 25) dX6_keep_25 fl_X6_90 (by apply lkE; (with_reducible first | exact lkX_1 | exact lkX_27 | exact lkX_p | exact lkX_34 | exact lkX_35 | exact lkX_107 | exact lkX_125 | exact lkX_127 | exact lkX_28 | exact lkX_30 | exact lkX_32 | exact lkX_p1 | exact lkX_p3 | exact lkX_p5 | exact lkX_p7 | exact lkX_p9 | exact lkX_2 | exact lkX_109 | exact lkX_4 | exact lkX_d); rfl) rfl ?_
    refine j_iload_n (pc := 28) dX6_keep_28 rfl ?_
    refine j_s1 (pc := 29) dX6_keep_29 mc_X6_bit ml_X6_178 sm_X6_bit (by omega) (c_bit) (Nat.le_of_ble_eq_true rfl) ?_
    refine j_ior (pc := 32) dX6_keep_32 ?_
    refine j_putf (pc := 33) dX6_keep_33 fl_X6_90 (jfit_i _) (by apply lkE; (with_reducible first | exact lkX_1 | exact lkX_27 | exact lkX_p | exact lkX_34 | exact lkX_35 | exact lkX_107 | exact lkX_125 | exact lkX_127 | exact lkX_28 | exact lkX_30 | exact lkX_32 | exact lkX_p1 | exact lkX_p3 | exact lkX_p5 | exact lkX_p7 | exact lkX_p9 | exact lkX_2 | exact lkX_109 | exact lkX_4 | exact lkX_d); rfl) upX_1 ?_
    refine j_aload_n (pc := 36) dX6_keep_36 rfl ?_
    refine j_getf (pc := 37) dX6_keep_37 fl_X6_40 (by apply lkE; (with_reducible first | exact lkX_1 | exact lkX_27 | exact lkX_p | exact lkX_34 | exact lkX_35 | exact lkX_107 | exact lkX_125 | exact lkX_127 | exact lkX_28 | exact lkX_30 | exact lkX_32 | exact lkX_p1 | exact lkX_p3 | exact lkX_p5 | exact lkX_p7 | exact lkX_p9 | exact lkX_2 | exact lkX_109 | exact lkX_4 | exact lkX_d); rfl) rfl ?_
    refine j_getf (pc := 40) dX6_keep_40 fl_X6_147 (by apply lkE; (with_reducible first | exact lkX_1 | exact lkX_27 | exact lkX_p | exact lkX_34 | exact lkX_35 | exact lkX_107 | exact lkX_125 | exact lkX_127 | exact lkX_28 | exact lkX_30 | exact lkX_32 | exact lkX_p1 | exact lkX_p3 | exact lkX_p5 | exact lkX_p7 | exact lkX_p9 | exact lkX_2 | exact lkX_109 | exact lkX_4 | exact lkX_d); rfl) rfl ?_
    refine j_ireturn (pc := 43) dX6_keep_43 rfl ?_
    exact h2 j hj2 rfl
  · refine j_iconst (pc := 9) dX6_keep_9 kc_m1 ?_
    refine j_ireturn (pc := 10) dX6_keep_10 rfl ?_
    exact h1 zc6

set_option maxRecDepth 20000 in
set_option maxHeartbeats 200000 in
theorem x_back {c : Int32} (h1 : jin c 0 1 = false → Q (some (.int (-1))) (W1 scr tl lt lc rd sw P D S kk nx ring bu im kept tb tr tc ts)) (h2 : ∀ j : Nat, j < 2 → c = nI j → tbit kept (nI j) = false → Q (some (.int (-2))) (W1 scr tl lt lc rd sw P D S kk nx ring bu im kept tb tr tc ts)) (h3 : ∀ j : Nat, j < 2 → c = nI j → tbit kept (nI j) = true → Q (some (.int (im j).1)) (W1 scr tl lt lc rd sw P D (im j) (0) nx ring bu im kept tb tr tc ts)) : C g 4 0 0 mX6_back [.ref 1, .int c] (W1 scr tl lt lc rd sw P D S kk nx ring bu im kept tb tr tc ts) Q := by
  refine C.of (by decide +kernel) (by simp [Value.category]) (Nat.le_of_ble_eq_true rfl) ?_
  change J g mX6_back 4 0 0 _ (W1 scr tl lt lc rd sw P D S kk nx ring bu im kept tb tr tc ts) 0 [some (.ref 1), some (.int c)] []
  refine j_iload_n (pc := 0) dX6_back_0 rfl ?_
  refine j_iconst (pc := 1) dX6_back_1 kc_0 ?_
  refine j_iconst (pc := 2) dX6_back_2 kc_1 ?_
  refine j_s3 (pc := 3) dX6_back_3 mc_X6_isWithin ml_X6_71 sm_X6_isWithin (by omega) (c_isWithin) (Nat.le_of_ble_eq_true rfl) ?_
  refine j_bne (pc := 6) (tgt := 11) dX6_back_6 rfl (fun zc6 => ?_) (fun zc6 => ?_)
  · obtain ⟨j, hj, rfl⟩ := jin_nat (n := 1) (by decide) zc6
    have hj2 : j < 2 := by omega
    refine j_aload_n (pc := 11) dX6_back_11 rfl ?_
    refine j_getf (pc := 12) dX6_back_12 fl_X6_90 (by apply lkE; (with_reducible first | exact lkX_1 | exact lkX_27 | exact lkX_p | exact lkX_34 | exact lkX_35 | exact lkX_107 | exact lkX_125 | exact lkX_127 | exact lkX_28 | exact lkX_30 | exact lkX_32 | exact lkX_p1 | exact lkX_p3 | exact lkX_p5 | exact lkX_p7 | exact lkX_p9 | exact lkX_2 | exact lkX_109 | exact lkX_4 | exact lkX_d); rfl) rfl ?_
    refine j_iload_n (pc := 15) dX6_back_15 rfl ?_
    refine j_s2 (pc := 16) dX6_back_16 mc_X6_isIn ml_X6_174 sm_X6_isIn (by omega) (c_isIn) (Nat.le_of_ble_eq_true rfl) ?_
    refine j_bne (pc := 19) (tgt := 25) dX6_back_19 rfl (fun zc19 => ?_) (fun zc19 => ?_)
    · refine j_aload_n (pc := 25) dX6_back_25 rfl ?_
      refine j_getf (pc := 26) dX6_back_26 fl_X6_61 (by apply lkE; (with_reducible first | exact lkX_1 | exact lkX_27 | exact lkX_p | exact lkX_34 | exact lkX_35 | exact lkX_107 | exact lkX_125 | exact lkX_127 | exact lkX_28 | exact lkX_30 | exact lkX_32 | exact lkX_p1 | exact lkX_p3 | exact lkX_p5 | exact lkX_p7 | exact lkX_p9 | exact lkX_2 | exact lkX_109 | exact lkX_4 | exact lkX_d); rfl) rfl ?_
      refine j_iload_n (pc := 29) dX6_back_29 rfl ?_
      refine j_aload_n (pc := 30) dX6_back_30 rfl ?_
      refine j_getf (pc := 31) dX6_back_31 fl_X6_40 (by apply lkE; (with_reducible first | exact lkX_1 | exact lkX_27 | exact lkX_p | exact lkX_34 | exact lkX_35 | exact lkX_107 | exact lkX_125 | exact lkX_127 | exact lkX_28 | exact lkX_30 | exact lkX_32 | exact lkX_p1 | exact lkX_p3 | exact lkX_p5 | exact lkX_p7 | exact lkX_p9 | exact lkX_2 | exact lkX_109 | exact lkX_4 | exact lkX_d); rfl) rfl ?_
      refine j_v2n (pc := 34) (ci := 5) dX6_back_34 mc_X5_copyTo ml_X6_267 im_X5_copyTo se_X5_copyTo rfl rfl (by apply lkE; (with_reducible first | exact lkX_1 | exact lkX_27 | exact lkX_p | exact lkX_34 | exact lkX_35 | exact lkX_107 | exact lkX_125 | exact lkX_127 | exact lkX_28 | exact lkX_30 | exact lkX_32 | exact lkX_p1 | exact lkX_p3 | exact lkX_p5 | exact lkX_p7 | exact lkX_p9 | exact lkX_2 | exact lkX_109 | exact lkX_4 | exact lkX_d); rfl) (by omega) (CD.heap sc_set (c_shGet (j := j) lkX_109 lkX_110 (show imC.2.length = 2 from rfl) (by decide) hj2 (im_v hj2) (im_at hj2) ⟨lkX_27, lkX_28, lkX_29, lkX_30, lkX_31, lkX_32, lkX_33⟩ (by omega))) (Nat.le_of_ble_eq_true rfl) ?_
      refine j_aload_n (pc := 37) dX6_back_37 rfl ?_
      refine j_getf (pc := 38) dX6_back_38 fl_X6_51 (by apply lkE; (with_reducible first | exact lkX_1 | exact lkX_27 | exact lkX_p | exact lkX_34 | exact lkX_35 | exact lkX_107 | exact lkX_125 | exact lkX_127 | exact lkX_28 | exact lkX_30 | exact lkX_32 | exact lkX_p1 | exact lkX_p3 | exact lkX_p5 | exact lkX_p7 | exact lkX_p9 | exact lkX_2 | exact lkX_109 | exact lkX_4 | exact lkX_d); rfl) rfl ?_
      refine j_v0n (pc := 41) (ci := 0) dX6_back_41 mc_X0_loseAll ml_X6_87 im_X0_loseAll se_X0_loseAll rfl rfl (by apply lkE; (with_reducible first | exact lkX_1 | exact lkX_27 | exact lkX_p | exact lkX_34 | exact lkX_35 | exact lkX_107 | exact lkX_125 | exact lkX_127 | exact lkX_28 | exact lkX_30 | exact lkX_32 | exact lkX_p1 | exact lkX_p3 | exact lkX_p5 | exact lkX_p7 | exact lkX_p9 | exact lkX_2 | exact lkX_109 | exact lkX_4 | exact lkX_d); rfl) (by omega) (CD.heap upX_34 (c_loseAll lkX_34)) (Nat.le_of_ble_eq_true rfl) ?_
      refine j_aload_n (pc := 44) dX6_back_44 rfl ?_
      refine j_getf (pc := 45) dX6_back_45 fl_X6_40 (by apply lkE; (with_reducible first | exact lkX_1 | exact lkX_27 | exact lkX_p | exact lkX_34 | exact lkX_35 | exact lkX_107 | exact lkX_125 | exact lkX_127 | exact lkX_28 | exact lkX_30 | exact lkX_32 | exact lkX_p1 | exact lkX_p3 | exact lkX_p5 | exact lkX_p7 | exact lkX_p9 | exact lkX_2 | exact lkX_109 | exact lkX_4 | exact lkX_d); rfl) rfl ?_
      refine j_getf (pc := 48) dX6_back_48 fl_X6_147 (by apply lkE; (with_reducible first | exact lkX_1 | exact lkX_27 | exact lkX_p | exact lkX_34 | exact lkX_35 | exact lkX_107 | exact lkX_125 | exact lkX_127 | exact lkX_28 | exact lkX_30 | exact lkX_32 | exact lkX_p1 | exact lkX_p3 | exact lkX_p5 | exact lkX_p7 | exact lkX_p9 | exact lkX_2 | exact lkX_109 | exact lkX_4 | exact lkX_d); rfl) rfl ?_
      refine j_ireturn (pc := 51) dX6_back_51 rfl ?_
      exact h3 j hj2 rfl zc19
    · refine j_bipush (pc := 22) dX6_back_22 kb_m2 ?_
      refine j_ireturn (pc := 24) dX6_back_24 rfl ?_
      exact h2 j hj2 rfl zc19
  · refine j_iconst (pc := 9) dX6_back_9 kc_m1 ?_
    refine j_ireturn (pc := 10) dX6_back_10 rfl ?_
    exact h1 zc6

end

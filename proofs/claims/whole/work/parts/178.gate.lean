/-! the class's reader: the whole text; gate -/
section
variable {g : GG} {h : List AC} {Q : Option Value → List AC → Prop} {scr : AC} {tl : List AC} {lt : Fn} {lc : Int32} {rd : RdV} {sw : Bool} {P : ParV} {D : ParV} {S : ScV} {kk : Int32} {nx : Int32} {ring : Nat → ScV} {bu : Fn} {im : Nat → ScV} {kept : Int32} {tb : Fn} {tr : Fn} {tc : Int32} {ts : Int64}
def okS (L : Nat) (s : PSt) : Prop := s.1 ≤ L ∧ s.2.1 ≤ L
theorem tkS_ok {lt : Fn} {L : Nat} {s : PSt} (h : okS L s) : okS L (tkS lt L s) := by
  refine ⟨?_, tkS_le h.2⟩
  have h1 := skR_ge lt (L - s.2.1) s.2.1
  have h2 := h.2
  show (tkR lt L s.2.1 s.2.2.2.1).1 ≤ L
  unfold tkR
  split
  · show skR lt (L - s.2.1) s.2.1 ≤ L
    omega
  · split
    · show skR lt (L - s.2.1) s.2.1 ≤ L
      omega
    · show skR lt (L - s.2.1) s.2.1 ≤ L
      omega
theorem opR_ok {lt : Fn} {L : Nat} {s : PSt} {may : Bool} (h : okS L s) : okS L (opR lt L may s) := by
  unfold opR; split
  · exact tkS_ok h
  · exact h
theorem nuR_ok {lt : Fn} {L : Nat} {s : PSt} {lo hi : Int32} (h : okS L s) : okS L (nuR lt L lo hi s) := by
  unfold nuR; split
  · exact tkS_ok h
  · exact h
theorem clR_ok {lt : Fn} {L : Nat} {s : PSt} (h : okS L s) : okS L (clR lt L s) := by
  unfold clR; split
  · exact tkS_ok h
  · exact h
theorem rdnR_ok {lt : Fn} {L : Nat} {dd : Int32} : ∀ (m : Nat) (dn : Int32) (s : PSt), okS L s → okS L (rdnR lt L dd m dn s).2
  | 0, dn, s, h => h
  | m + 1, dn, s, h => by
    unfold rdnR; split
    · exact rdnR_ok m _ _ (tkS_ok h)
    · exact h
theorem rdn_ok {lt : Fn} {L : Nat} {dd : Int32} {s : PSt} (h : okS L s) : okS L (rdn lt L dd s).2 := by
  unfold rdn; split
  · exact h
  · exact rdnR_ok 6 0 s h
def itR (lt : Fn) (L : Nat) (s : PSt) (D : ParV) : PSt × ParV :=
  if s.2.2.1 = 98 then beR lt L s D else if s.2.2.1 = 100 then deR lt L s D else if s.2.2.1 = 108 then ldR lt L s D else if s.2.2.1 = 112 then piR lt L s D else if s.2.2.1 = 114 then ruR lt L s D else (wrS s, D)
theorem deR_ok {lt : Fn} {L : Nat} {s : PSt} {D : ParV} (h : okS L s) : okS L (deR lt L s D).1 := clR_ok (nuR_ok (opR_ok h))
theorem beR_ok {lt : Fn} {L : Nat} {s : PSt} {D : ParV} (h : okS L s) : okS L (beR lt L s D).1 := clR_ok (nuR_ok (opR_ok h))
theorem ldR_ok {lt : Fn} {L : Nat} {s : PSt} {D : ParV} (h : okS L s) : okS L (ldR lt L s D).1 := clR_ok (rdn_ok (nuR_ok (nuR_ok (opR_ok h))))
theorem piR_ok {lt : Fn} {L : Nat} {s : PSt} {D : ParV} (h : okS L s) : okS L (piR lt L s D).1 := (clR_ok (nuR_ok (opR_ok h)) : okS L (clR lt L (nuR lt L 10 99 (pi1 lt L s))))
theorem ruR_ok {lt : Fn} {L : Nat} {s : PSt} {D : ParV} (h : okS L s) : okS L (ruR lt L s D).1 := (clR_ok (nuR_ok (opR_ok h)) : okS L (clR lt L (nuR lt L 0 9 (ru1 lt L s))))
theorem itR_ok {lt : Fn} {L : Nat} {s : PSt} {D : ParV} (h : okS L s) : okS L (itR lt L s D).1 := by
  unfold itR
  split
  · exact beR_ok h
  · split
    · exact deR_ok h
    · split
      · exact ldR_ok h
      · split
        · exact piR_ok h
        · split
          · exact ruR_ok h
          · exact h
def rlR (lt : Fn) (L : Nat) : Nat → PSt → ParV → PSt × ParV
  | 0, s, D => (s, D)
  | m + 1, s, D => if s.2.2.2.2.1 || decide (s.2.2.1 = 0) then (s, D) else rlR lt L m (itR lt L s D).1 (itR lt L s D).2
theorem rlR_ok {lt : Fn} {L : Nat} : ∀ (m : Nat) (s : PSt) (D : ParV), okS L s → okS L (rlR lt L m s D).1
  | 0, s, D, h => h
  | m + 1, s, D, h => by
    unfold rlR; split
    · exact h
    · exact rlR_ok m _ _ (itR_ok h)
def rdF (lt : Fn) (L : Nat) (v : Int32) (D : ParV) : PSt × ParV := rlR lt L 150 (tkS lt L (0, 0, 0, v, false, false, false)) (0, 0, 0, 0, 80, 2, D.2.2.2.2.2.2.1, D.2.2.2.2.2.2.2.1, D.2.2.2.2.2.2.2.2.1, D.2.2.2.2.2.2.2.2.2.1, D.2.2.2.2.2.2.2.2.2.2)
theorem rdF_ok {lt : Fn} {L : Nat} {v : Int32} {D : ParV} : okS L (rdF lt L v D).1 := rlR_ok 150 _ _ (tkS_ok ⟨Nat.zero_le _, Nat.zero_le _⟩)
theorem pa_le (sw : Bool) : pa sw + 11 ≤ 27 := by cases sw <;> decide
theorem nI_m1 {n : Nat} (h : n < 2 ^ 31) : ¬ nI n = -1 := fun e => by
  have := nI_toInt h
  rw [e] at this
  have h2 : (-1 : Int32).toInt = -1 := by decide
  omega
theorem j_lookupD {g : GG} {y : MI} : True := trivial
set_option maxRecDepth 100000 in
theorem upX_sw2 {scr : AC} {tl : List AC} {lt : Fn} {lc : Int32} {rd : RdV} {sw : Bool} {P : ParV} {D : ParV} {S : ScV} {kk : Int32} {nx : Int32} {ring : Nat → ScV} {bu : Fn} {im : Nat → ScV} {kept : Int32} {tb : Fn} {tr : Fn} {tc : Int32} {ts : Int64} : (W1 scr tl lt lc rd sw P D S kk nx ring bu im kept tb tr tc ts).set 1 (6, [.ref 2, .int lc, .ref 4, .ref (pd sw), .ref (pa sw), .ref 27, .ref 34, .ref 107, .ref 109, .int kept, .ref 125, .ref 127, .int tc, .long ts]) = (W1 scr tl lt lc rd (!sw) (D) (P) S kk nx ring bu im kept tb tr tc ts) := by cases sw <;> rfl
set_option maxRecDepth 20000 in
set_option maxHeartbeats 1000000 in
theorem xl_read {L : Nat} (hL : L ≤ 150) : ∀ (m i : Nat) (s : PSt) (D : ParV), i + m = 150 → okS L s → J g mX2_read 5 0 0 Q (W1 scr tl lt lc (rdOf L (rlR lt L m s D).1) sw P ((rlR lt L m s D).2) S kk nx ring bu im kept tb tr tc ts) 163 [some (.ref 4), some (.int (nI L)), some (.ref (pd sw)), none] [] → J g mX2_read 5 0 0 Q (W1 scr tl lt lc (rdOf L s) sw P D S kk nx ring bu im kept tb tr tc ts) 35 [some (.ref 4), some (.int (nI L)), some (.ref (pd sw)), some (.int (nI i))] [] := by
  intro m
  induction m with
  | zero =>
    intro i s D hk hb hq
    obtain ⟨sa, bh, tk, vl, w1, w2, w3⟩ := s
    change J g mX2_read 5 0 0 Q (W1 scr tl lt lc (nI L, nI sa, nI bh, tk, vl, w1, w2, w3) sw P D S kk nx ring bu im kept tb tr tc ts) 35 _ []
    refine j_iload_n (pc := 35) dX2_read_35 rfl ?_
    refine j_sipush (pc := 36) dX2_read_36 ks_150 ?_
    refine j_icmp_ge (pc := 39) (tgt := 163) dX2_read_39 rfl (fun _ => ?_) (fun zc39 => absurd (nI_le (a := 150) (b := i) (by omega) (by omega)) zc39)
    refine j_weak (ls' := [some _, some _, some _, none]) ⟨rfl, rfl, rfl, trivial⟩ ?_
    first
      | exact hq
      | (rw [rlR, if_pos (show (w1 || decide (tk = 0)) = true by simp [*])] at hq; exact hq)
  | succ m ih =>
    intro i s D hk hb hq
    obtain ⟨sa, bh, tk, vl, w1, w2, w3⟩ := s
    change J g mX2_read 5 0 0 Q (W1 scr tl lt lc (nI L, nI sa, nI bh, tk, vl, w1, w2, w3) sw P D S kk nx ring bu im kept tb tr tc ts) 35 _ []
    refine j_iload_n (pc := 35) dX2_read_35 rfl ?_
    refine j_sipush (pc := 36) dX2_read_36 ks_150 ?_
    refine j_icmp_ge (pc := 39) (tgt := 163) dX2_read_39 rfl (fun zc39 => absurd zc39 (nI_ge (a := i) (b := 150) (by omega) (by omega))) (fun _ => ?_)
    refine j_aload_n (pc := 42) dX2_read_42 rfl ?_
    refine j_getf (pc := 43) dX2_read_43 fl_X2_22 (by apply lkE; (with_reducible first | exact lkX_1 | exact lkX_4e | exact lkX_4 | exact lkX_27 | exact lkX_p | exact lkX_d | exact lkX_34); rfl) rfl ?_
    refine j_bne (pc := 46) (tgt := 163) dX2_read_46 rfl (fun zc46 => ?_) (fun zc46 => ?_)
    · refine j_weak (ls' := [some _, some _, some _, none]) ⟨rfl, rfl, rfl, trivial⟩ ?_
      first
        | exact hq
        | (rw [rlR, if_pos (show (w1 || decide (tk = 0)) = true by simp [*])] at hq; exact hq)
    · refine j_aload_n (pc := 49) dX2_read_49 rfl ?_
      refine j_getf (pc := 50) dX2_read_50 fl_X2_40 (by apply lkE; (with_reducible first | exact lkX_1 | exact lkX_4e | exact lkX_4 | exact lkX_27 | exact lkX_p | exact lkX_d | exact lkX_34); rfl) rfl ?_
      refine j_if_eq (pc := 53) (tgt := 163) dX2_read_53 rfl (fun zc53 => ?_) (fun zc53 => ?_)
      · refine j_weak (ls' := [some _, some _, some _, none]) ⟨rfl, rfl, rfl, trivial⟩ ?_
        first
          | exact hq
          | (rw [rlR, if_pos (show (w1 || decide (tk = 0)) = true by simp [*])] at hq; exact hq)
      · refine j_aload_n (pc := 56) dX2_read_56 rfl ?_
        refine j_getf (pc := 57) dX2_read_57 fl_X2_40 (by apply lkE; (with_reducible first | exact lkX_1 | exact lkX_4e | exact lkX_4 | exact lkX_27 | exact lkX_p | exact lkX_d | exact lkX_34); rfl) rfl ?_
        by_cases zs60_0 : tk = 98
        · refine j_lookup (pc := 60) (off := 68) (tgt := 128) dX2_read_60 (by decide) (by rw [zs60_0]; decide) rfl ?_
          refine j_aload_n (pc := 128) dX2_read_128 rfl ?_
          refine j_aload_n (pc := 129) dX2_read_129 rfl ?_
          refine j_v1n (pc := 130) (ci := 2) dX2_read_130 mc_X2_readBearer ml_X2_50 im_X2_readBearer se_X2_readBearer rfl rfl (by apply lkE; (with_reducible first | exact lkX_1 | exact lkX_4e | exact lkX_4 | exact lkX_27 | exact lkX_p | exact lkX_d | exact lkX_34); rfl) (by omega) (x_readBearer (s := (sa, bh, tk, vl, w1, w2, w3)) hL hb.2) (Nat.le_of_ble_eq_true rfl) ?_
          refine j_goto (pc := 133) (tgt := 157) dX2_read_133 rfl ?_
          refine j_iinc (pc := 157) dX2_read_157 rfl rfl (Nat.le_of_ble_eq_true rfl) rfl ?_
          refine j_goto (pc := 160) (tgt := 35) dX2_read_160 rfl ?_
          rw [nI_s]
          refine ih (i + 1) _ _ (by omega) (by first | with_reducible exact beR_ok hb | with_reducible exact deR_ok hb | with_reducible exact ldR_ok hb | with_reducible exact piR_ok hb | with_reducible exact ruR_ok hb | exact hb) ?_
          rw [rlR, if_neg (show ¬ (w1 || decide (tk = 0)) = true by simp [zc46, zc53])] at hq
          first
            | (rw [itR, if_pos (show (sa, bh, tk, vl, w1, w2, w3).2.2.1 = 98 from zs60_0)] at hq; exact hq)
            | (rw [itR, if_neg (show ¬ (sa, bh, tk, vl, w1, w2, w3).2.2.1 = 98 from zs60_0), if_pos (show (sa, bh, tk, vl, w1, w2, w3).2.2.1 = 100 from zs60_1)] at hq; exact hq)
            | (rw [itR, if_neg (show ¬ (sa, bh, tk, vl, w1, w2, w3).2.2.1 = 98 from zs60_0), if_neg (show ¬ (sa, bh, tk, vl, w1, w2, w3).2.2.1 = 100 from zs60_1), if_pos (show (sa, bh, tk, vl, w1, w2, w3).2.2.1 = 108 from zs60_2)] at hq; exact hq)
            | (rw [itR, if_neg (show ¬ (sa, bh, tk, vl, w1, w2, w3).2.2.1 = 98 from zs60_0), if_neg (show ¬ (sa, bh, tk, vl, w1, w2, w3).2.2.1 = 100 from zs60_1), if_neg (show ¬ (sa, bh, tk, vl, w1, w2, w3).2.2.1 = 108 from zs60_2), if_pos (show (sa, bh, tk, vl, w1, w2, w3).2.2.1 = 112 from zs60_3)] at hq; exact hq)
            | (rw [itR, if_neg (show ¬ (sa, bh, tk, vl, w1, w2, w3).2.2.1 = 98 from zs60_0), if_neg (show ¬ (sa, bh, tk, vl, w1, w2, w3).2.2.1 = 100 from zs60_1), if_neg (show ¬ (sa, bh, tk, vl, w1, w2, w3).2.2.1 = 108 from zs60_2), if_neg (show ¬ (sa, bh, tk, vl, w1, w2, w3).2.2.1 = 112 from zs60_3), if_pos (show (sa, bh, tk, vl, w1, w2, w3).2.2.1 = 114 from zs60_4)] at hq; exact hq)
            | (rw [itR, if_neg (show ¬ (sa, bh, tk, vl, w1, w2, w3).2.2.1 = 98 from zs60_0), if_neg (show ¬ (sa, bh, tk, vl, w1, w2, w3).2.2.1 = 100 from zs60_1), if_neg (show ¬ (sa, bh, tk, vl, w1, w2, w3).2.2.1 = 108 from zs60_2), if_neg (show ¬ (sa, bh, tk, vl, w1, w2, w3).2.2.1 = 112 from zs60_3), if_neg (show ¬ (sa, bh, tk, vl, w1, w2, w3).2.2.1 = 114 from zs60_4)] at hq; exact hq)
        by_cases zs60_1 : tk = 100
        · refine j_lookup (pc := 60) (off := 52) (tgt := 112) dX2_read_60 (by decide) (by rw [zs60_1]; decide) rfl ?_
          refine j_aload_n (pc := 112) dX2_read_112 rfl ?_
          refine j_aload_n (pc := 113) dX2_read_113 rfl ?_
          refine j_v1n (pc := 114) (ci := 2) dX2_read_114 mc_X2_readDeed ml_X2_43 im_X2_readDeed se_X2_readDeed rfl rfl (by apply lkE; (with_reducible first | exact lkX_1 | exact lkX_4e | exact lkX_4 | exact lkX_27 | exact lkX_p | exact lkX_d | exact lkX_34); rfl) (by omega) (x_readDeed (s := (sa, bh, tk, vl, w1, w2, w3)) hL hb.2) (Nat.le_of_ble_eq_true rfl) ?_
          refine j_goto (pc := 117) (tgt := 157) dX2_read_117 rfl ?_
          refine j_iinc (pc := 157) dX2_read_157 rfl rfl (Nat.le_of_ble_eq_true rfl) rfl ?_
          refine j_goto (pc := 160) (tgt := 35) dX2_read_160 rfl ?_
          rw [nI_s]
          refine ih (i + 1) _ _ (by omega) (by first | with_reducible exact beR_ok hb | with_reducible exact deR_ok hb | with_reducible exact ldR_ok hb | with_reducible exact piR_ok hb | with_reducible exact ruR_ok hb | exact hb) ?_
          rw [rlR, if_neg (show ¬ (w1 || decide (tk = 0)) = true by simp [zc46, zc53])] at hq
          first
            | (rw [itR, if_pos (show (sa, bh, tk, vl, w1, w2, w3).2.2.1 = 98 from zs60_0)] at hq; exact hq)
            | (rw [itR, if_neg (show ¬ (sa, bh, tk, vl, w1, w2, w3).2.2.1 = 98 from zs60_0), if_pos (show (sa, bh, tk, vl, w1, w2, w3).2.2.1 = 100 from zs60_1)] at hq; exact hq)
            | (rw [itR, if_neg (show ¬ (sa, bh, tk, vl, w1, w2, w3).2.2.1 = 98 from zs60_0), if_neg (show ¬ (sa, bh, tk, vl, w1, w2, w3).2.2.1 = 100 from zs60_1), if_pos (show (sa, bh, tk, vl, w1, w2, w3).2.2.1 = 108 from zs60_2)] at hq; exact hq)
            | (rw [itR, if_neg (show ¬ (sa, bh, tk, vl, w1, w2, w3).2.2.1 = 98 from zs60_0), if_neg (show ¬ (sa, bh, tk, vl, w1, w2, w3).2.2.1 = 100 from zs60_1), if_neg (show ¬ (sa, bh, tk, vl, w1, w2, w3).2.2.1 = 108 from zs60_2), if_pos (show (sa, bh, tk, vl, w1, w2, w3).2.2.1 = 112 from zs60_3)] at hq; exact hq)
            | (rw [itR, if_neg (show ¬ (sa, bh, tk, vl, w1, w2, w3).2.2.1 = 98 from zs60_0), if_neg (show ¬ (sa, bh, tk, vl, w1, w2, w3).2.2.1 = 100 from zs60_1), if_neg (show ¬ (sa, bh, tk, vl, w1, w2, w3).2.2.1 = 108 from zs60_2), if_neg (show ¬ (sa, bh, tk, vl, w1, w2, w3).2.2.1 = 112 from zs60_3), if_pos (show (sa, bh, tk, vl, w1, w2, w3).2.2.1 = 114 from zs60_4)] at hq; exact hq)
            | (rw [itR, if_neg (show ¬ (sa, bh, tk, vl, w1, w2, w3).2.2.1 = 98 from zs60_0), if_neg (show ¬ (sa, bh, tk, vl, w1, w2, w3).2.2.1 = 100 from zs60_1), if_neg (show ¬ (sa, bh, tk, vl, w1, w2, w3).2.2.1 = 108 from zs60_2), if_neg (show ¬ (sa, bh, tk, vl, w1, w2, w3).2.2.1 = 112 from zs60_3), if_neg (show ¬ (sa, bh, tk, vl, w1, w2, w3).2.2.1 = 114 from zs60_4)] at hq; exact hq)
        by_cases zs60_2 : tk = 108
        · refine j_lookup (pc := 60) (off := 60) (tgt := 120) dX2_read_60 (by decide) (by rw [zs60_2]; decide) rfl ?_
          refine j_aload_n (pc := 120) dX2_read_120 rfl ?_
          refine j_aload_n (pc := 121) dX2_read_121 rfl ?_
          refine j_v1n (pc := 122) (ci := 2) dX2_read_122 mc_X2_readDead ml_X2_47 im_X2_readDead se_X2_readDead rfl rfl (by apply lkE; (with_reducible first | exact lkX_1 | exact lkX_4e | exact lkX_4 | exact lkX_27 | exact lkX_p | exact lkX_d | exact lkX_34); rfl) (by omega) (x_readDead (s := (sa, bh, tk, vl, w1, w2, w3)) hL hb.2) (Nat.le_of_ble_eq_true rfl) ?_
          refine j_goto (pc := 125) (tgt := 157) dX2_read_125 rfl ?_
          refine j_iinc (pc := 157) dX2_read_157 rfl rfl (Nat.le_of_ble_eq_true rfl) rfl ?_
          refine j_goto (pc := 160) (tgt := 35) dX2_read_160 rfl ?_
          rw [nI_s]
          refine ih (i + 1) _ _ (by omega) (by first | with_reducible exact beR_ok hb | with_reducible exact deR_ok hb | with_reducible exact ldR_ok hb | with_reducible exact piR_ok hb | with_reducible exact ruR_ok hb | exact hb) ?_
          rw [rlR, if_neg (show ¬ (w1 || decide (tk = 0)) = true by simp [zc46, zc53])] at hq
          first
            | (rw [itR, if_pos (show (sa, bh, tk, vl, w1, w2, w3).2.2.1 = 98 from zs60_0)] at hq; exact hq)
            | (rw [itR, if_neg (show ¬ (sa, bh, tk, vl, w1, w2, w3).2.2.1 = 98 from zs60_0), if_pos (show (sa, bh, tk, vl, w1, w2, w3).2.2.1 = 100 from zs60_1)] at hq; exact hq)
            | (rw [itR, if_neg (show ¬ (sa, bh, tk, vl, w1, w2, w3).2.2.1 = 98 from zs60_0), if_neg (show ¬ (sa, bh, tk, vl, w1, w2, w3).2.2.1 = 100 from zs60_1), if_pos (show (sa, bh, tk, vl, w1, w2, w3).2.2.1 = 108 from zs60_2)] at hq; exact hq)
            | (rw [itR, if_neg (show ¬ (sa, bh, tk, vl, w1, w2, w3).2.2.1 = 98 from zs60_0), if_neg (show ¬ (sa, bh, tk, vl, w1, w2, w3).2.2.1 = 100 from zs60_1), if_neg (show ¬ (sa, bh, tk, vl, w1, w2, w3).2.2.1 = 108 from zs60_2), if_pos (show (sa, bh, tk, vl, w1, w2, w3).2.2.1 = 112 from zs60_3)] at hq; exact hq)
            | (rw [itR, if_neg (show ¬ (sa, bh, tk, vl, w1, w2, w3).2.2.1 = 98 from zs60_0), if_neg (show ¬ (sa, bh, tk, vl, w1, w2, w3).2.2.1 = 100 from zs60_1), if_neg (show ¬ (sa, bh, tk, vl, w1, w2, w3).2.2.1 = 108 from zs60_2), if_neg (show ¬ (sa, bh, tk, vl, w1, w2, w3).2.2.1 = 112 from zs60_3), if_pos (show (sa, bh, tk, vl, w1, w2, w3).2.2.1 = 114 from zs60_4)] at hq; exact hq)
            | (rw [itR, if_neg (show ¬ (sa, bh, tk, vl, w1, w2, w3).2.2.1 = 98 from zs60_0), if_neg (show ¬ (sa, bh, tk, vl, w1, w2, w3).2.2.1 = 100 from zs60_1), if_neg (show ¬ (sa, bh, tk, vl, w1, w2, w3).2.2.1 = 108 from zs60_2), if_neg (show ¬ (sa, bh, tk, vl, w1, w2, w3).2.2.1 = 112 from zs60_3), if_neg (show ¬ (sa, bh, tk, vl, w1, w2, w3).2.2.1 = 114 from zs60_4)] at hq; exact hq)
        by_cases zs60_3 : tk = 112
        · refine j_lookup (pc := 60) (off := 76) (tgt := 136) dX2_read_60 (by decide) (by rw [zs60_3]; decide) rfl ?_
          refine j_aload_n (pc := 136) dX2_read_136 rfl ?_
          refine j_aload_n (pc := 137) dX2_read_137 rfl ?_
          refine j_v1n (pc := 138) (ci := 2) dX2_read_138 mc_X2_readPin ml_X2_53 im_X2_readPin se_X2_readPin rfl rfl (by apply lkE; (with_reducible first | exact lkX_1 | exact lkX_4e | exact lkX_4 | exact lkX_27 | exact lkX_p | exact lkX_d | exact lkX_34); rfl) (by omega) (x_readPin (s := (sa, bh, tk, vl, w1, w2, w3)) hL hb.2) (Nat.le_of_ble_eq_true rfl) ?_
          refine j_goto (pc := 141) (tgt := 157) dX2_read_141 rfl ?_
          refine j_iinc (pc := 157) dX2_read_157 rfl rfl (Nat.le_of_ble_eq_true rfl) rfl ?_
          refine j_goto (pc := 160) (tgt := 35) dX2_read_160 rfl ?_
          rw [nI_s]
          refine ih (i + 1) _ _ (by omega) (by first | with_reducible exact beR_ok hb | with_reducible exact deR_ok hb | with_reducible exact ldR_ok hb | with_reducible exact piR_ok hb | with_reducible exact ruR_ok hb | exact hb) ?_
          rw [rlR, if_neg (show ¬ (w1 || decide (tk = 0)) = true by simp [zc46, zc53])] at hq
          first
            | (rw [itR, if_pos (show (sa, bh, tk, vl, w1, w2, w3).2.2.1 = 98 from zs60_0)] at hq; exact hq)
            | (rw [itR, if_neg (show ¬ (sa, bh, tk, vl, w1, w2, w3).2.2.1 = 98 from zs60_0), if_pos (show (sa, bh, tk, vl, w1, w2, w3).2.2.1 = 100 from zs60_1)] at hq; exact hq)
            | (rw [itR, if_neg (show ¬ (sa, bh, tk, vl, w1, w2, w3).2.2.1 = 98 from zs60_0), if_neg (show ¬ (sa, bh, tk, vl, w1, w2, w3).2.2.1 = 100 from zs60_1), if_pos (show (sa, bh, tk, vl, w1, w2, w3).2.2.1 = 108 from zs60_2)] at hq; exact hq)
            | (rw [itR, if_neg (show ¬ (sa, bh, tk, vl, w1, w2, w3).2.2.1 = 98 from zs60_0), if_neg (show ¬ (sa, bh, tk, vl, w1, w2, w3).2.2.1 = 100 from zs60_1), if_neg (show ¬ (sa, bh, tk, vl, w1, w2, w3).2.2.1 = 108 from zs60_2), if_pos (show (sa, bh, tk, vl, w1, w2, w3).2.2.1 = 112 from zs60_3)] at hq; exact hq)
            | (rw [itR, if_neg (show ¬ (sa, bh, tk, vl, w1, w2, w3).2.2.1 = 98 from zs60_0), if_neg (show ¬ (sa, bh, tk, vl, w1, w2, w3).2.2.1 = 100 from zs60_1), if_neg (show ¬ (sa, bh, tk, vl, w1, w2, w3).2.2.1 = 108 from zs60_2), if_neg (show ¬ (sa, bh, tk, vl, w1, w2, w3).2.2.1 = 112 from zs60_3), if_pos (show (sa, bh, tk, vl, w1, w2, w3).2.2.1 = 114 from zs60_4)] at hq; exact hq)
            | (rw [itR, if_neg (show ¬ (sa, bh, tk, vl, w1, w2, w3).2.2.1 = 98 from zs60_0), if_neg (show ¬ (sa, bh, tk, vl, w1, w2, w3).2.2.1 = 100 from zs60_1), if_neg (show ¬ (sa, bh, tk, vl, w1, w2, w3).2.2.1 = 108 from zs60_2), if_neg (show ¬ (sa, bh, tk, vl, w1, w2, w3).2.2.1 = 112 from zs60_3), if_neg (show ¬ (sa, bh, tk, vl, w1, w2, w3).2.2.1 = 114 from zs60_4)] at hq; exact hq)
        by_cases zs60_4 : tk = 114
        · refine j_lookup (pc := 60) (off := 84) (tgt := 144) dX2_read_60 (by decide) (by rw [zs60_4]; decide) rfl ?_
          refine j_aload_n (pc := 144) dX2_read_144 rfl ?_
          refine j_aload_n (pc := 145) dX2_read_145 rfl ?_
          refine j_v1n (pc := 146) (ci := 2) dX2_read_146 mc_X2_readRust ml_X2_56 im_X2_readRust se_X2_readRust rfl rfl (by apply lkE; (with_reducible first | exact lkX_1 | exact lkX_4e | exact lkX_4 | exact lkX_27 | exact lkX_p | exact lkX_d | exact lkX_34); rfl) (by omega) (x_readRust (s := (sa, bh, tk, vl, w1, w2, w3)) hL hb.2) (Nat.le_of_ble_eq_true rfl) ?_
          refine j_goto (pc := 149) (tgt := 157) dX2_read_149 rfl ?_
          refine j_iinc (pc := 157) dX2_read_157 rfl rfl (Nat.le_of_ble_eq_true rfl) rfl ?_
          refine j_goto (pc := 160) (tgt := 35) dX2_read_160 rfl ?_
          rw [nI_s]
          refine ih (i + 1) _ _ (by omega) (by first | with_reducible exact beR_ok hb | with_reducible exact deR_ok hb | with_reducible exact ldR_ok hb | with_reducible exact piR_ok hb | with_reducible exact ruR_ok hb | exact hb) ?_
          rw [rlR, if_neg (show ¬ (w1 || decide (tk = 0)) = true by simp [zc46, zc53])] at hq
          first
            | (rw [itR, if_pos (show (sa, bh, tk, vl, w1, w2, w3).2.2.1 = 98 from zs60_0)] at hq; exact hq)
            | (rw [itR, if_neg (show ¬ (sa, bh, tk, vl, w1, w2, w3).2.2.1 = 98 from zs60_0), if_pos (show (sa, bh, tk, vl, w1, w2, w3).2.2.1 = 100 from zs60_1)] at hq; exact hq)
            | (rw [itR, if_neg (show ¬ (sa, bh, tk, vl, w1, w2, w3).2.2.1 = 98 from zs60_0), if_neg (show ¬ (sa, bh, tk, vl, w1, w2, w3).2.2.1 = 100 from zs60_1), if_pos (show (sa, bh, tk, vl, w1, w2, w3).2.2.1 = 108 from zs60_2)] at hq; exact hq)
            | (rw [itR, if_neg (show ¬ (sa, bh, tk, vl, w1, w2, w3).2.2.1 = 98 from zs60_0), if_neg (show ¬ (sa, bh, tk, vl, w1, w2, w3).2.2.1 = 100 from zs60_1), if_neg (show ¬ (sa, bh, tk, vl, w1, w2, w3).2.2.1 = 108 from zs60_2), if_pos (show (sa, bh, tk, vl, w1, w2, w3).2.2.1 = 112 from zs60_3)] at hq; exact hq)
            | (rw [itR, if_neg (show ¬ (sa, bh, tk, vl, w1, w2, w3).2.2.1 = 98 from zs60_0), if_neg (show ¬ (sa, bh, tk, vl, w1, w2, w3).2.2.1 = 100 from zs60_1), if_neg (show ¬ (sa, bh, tk, vl, w1, w2, w3).2.2.1 = 108 from zs60_2), if_neg (show ¬ (sa, bh, tk, vl, w1, w2, w3).2.2.1 = 112 from zs60_3), if_pos (show (sa, bh, tk, vl, w1, w2, w3).2.2.1 = 114 from zs60_4)] at hq; exact hq)
            | (rw [itR, if_neg (show ¬ (sa, bh, tk, vl, w1, w2, w3).2.2.1 = 98 from zs60_0), if_neg (show ¬ (sa, bh, tk, vl, w1, w2, w3).2.2.1 = 100 from zs60_1), if_neg (show ¬ (sa, bh, tk, vl, w1, w2, w3).2.2.1 = 108 from zs60_2), if_neg (show ¬ (sa, bh, tk, vl, w1, w2, w3).2.2.1 = 112 from zs60_3), if_neg (show ¬ (sa, bh, tk, vl, w1, w2, w3).2.2.1 = 114 from zs60_4)] at hq; exact hq)
        refine j_lookup (pc := 60) (off := 92) (tgt := 152) dX2_read_60 (by decide) (by rw [lv_osw zs60_0 (a := 98) (by decide), lv_osw zs60_1 (a := 100) (by decide), lv_osw zs60_2 (a := 108) (by decide), lv_osw zs60_3 (a := 112) (by decide), lv_osw zs60_4 (a := 114) (by decide)]; rfl) rfl ?_
        refine j_aload_n (pc := 152) dX2_read_152 rfl ?_
        refine j_iconst (pc := 153) dX2_read_153 kc_1 ?_
        refine j_putf (pc := 154) dX2_read_154 fl_X2_22 (jfit_z true) (by apply lkE; (with_reducible first | exact lkX_1 | exact lkX_4e | exact lkX_4 | exact lkX_27 | exact lkX_p | exact lkX_d | exact lkX_34); rfl) (show _ = (W1 scr tl lt lc (rdOf L (wrS (sa, bh, tk, vl, w1, w2, w3))) sw P D S kk nx ring bu im kept tb tr tc ts) from upX_4 (w1 := true)) ?_
        refine j_iinc (pc := 157) dX2_read_157 rfl rfl (Nat.le_of_ble_eq_true rfl) rfl ?_
        refine j_goto (pc := 160) (tgt := 35) dX2_read_160 rfl ?_
        rw [nI_s]
        refine ih (i + 1) _ _ (by omega) (by first | with_reducible exact beR_ok hb | with_reducible exact deR_ok hb | with_reducible exact ldR_ok hb | with_reducible exact piR_ok hb | with_reducible exact ruR_ok hb | exact hb) ?_
        rw [rlR, if_neg (show ¬ (w1 || decide (tk = 0)) = true by simp [zc46, zc53])] at hq
        first
          | (rw [itR, if_pos (show (sa, bh, tk, vl, w1, w2, w3).2.2.1 = 98 from zs60_0)] at hq; exact hq)
          | (rw [itR, if_neg (show ¬ (sa, bh, tk, vl, w1, w2, w3).2.2.1 = 98 from zs60_0), if_pos (show (sa, bh, tk, vl, w1, w2, w3).2.2.1 = 100 from zs60_1)] at hq; exact hq)
          | (rw [itR, if_neg (show ¬ (sa, bh, tk, vl, w1, w2, w3).2.2.1 = 98 from zs60_0), if_neg (show ¬ (sa, bh, tk, vl, w1, w2, w3).2.2.1 = 100 from zs60_1), if_pos (show (sa, bh, tk, vl, w1, w2, w3).2.2.1 = 108 from zs60_2)] at hq; exact hq)
          | (rw [itR, if_neg (show ¬ (sa, bh, tk, vl, w1, w2, w3).2.2.1 = 98 from zs60_0), if_neg (show ¬ (sa, bh, tk, vl, w1, w2, w3).2.2.1 = 100 from zs60_1), if_neg (show ¬ (sa, bh, tk, vl, w1, w2, w3).2.2.1 = 108 from zs60_2), if_pos (show (sa, bh, tk, vl, w1, w2, w3).2.2.1 = 112 from zs60_3)] at hq; exact hq)
          | (rw [itR, if_neg (show ¬ (sa, bh, tk, vl, w1, w2, w3).2.2.1 = 98 from zs60_0), if_neg (show ¬ (sa, bh, tk, vl, w1, w2, w3).2.2.1 = 100 from zs60_1), if_neg (show ¬ (sa, bh, tk, vl, w1, w2, w3).2.2.1 = 108 from zs60_2), if_neg (show ¬ (sa, bh, tk, vl, w1, w2, w3).2.2.1 = 112 from zs60_3), if_pos (show (sa, bh, tk, vl, w1, w2, w3).2.2.1 = 114 from zs60_4)] at hq; exact hq)
          | (rw [itR, if_neg (show ¬ (sa, bh, tk, vl, w1, w2, w3).2.2.1 = 98 from zs60_0), if_neg (show ¬ (sa, bh, tk, vl, w1, w2, w3).2.2.1 = 100 from zs60_1), if_neg (show ¬ (sa, bh, tk, vl, w1, w2, w3).2.2.1 = 108 from zs60_2), if_neg (show ¬ (sa, bh, tk, vl, w1, w2, w3).2.2.1 = 112 from zs60_3), if_neg (show ¬ (sa, bh, tk, vl, w1, w2, w3).2.2.1 = 114 from zs60_4)] at hq; exact hq)

set_option maxRecDepth 20000 in
set_option maxHeartbeats 200000 in
theorem x_read {L : Nat} (hL : L ≤ 150) : CD g 5 mX2_read [.ref 4, .int (nI L), .ref (pd sw)] (W1 scr tl lt lc rd sw P D S kk nx ring bu im kept tb tr tc ts) (some (.int (if (rdF lt L rd.2.2.2.2.1 D).1.2.2.2.2.1 then nI (rdF lt L rd.2.2.2.2.1 D).1.1 else -1))) (W1 scr tl lt lc (rdOf L (rdF lt L rd.2.2.2.2.1 D).1) sw P ((rdF lt L rd.2.2.2.2.1 D).2) S kk nx ring bu im kept tb tr tc ts) := by
  refine C.of (by decide +kernel) (by simp [Value.category]) (Nat.le_of_ble_eq_true rfl) ?_
  change J g mX2_read 5 0 0 _ (W1 scr tl lt lc rd sw P D S kk nx ring bu im kept tb tr tc ts) 0 [some (.ref 4), some (.int (nI L)), some (.ref (pd sw)), none] []
  refine j_aload_n (pc := 0) dX2_read_0 rfl ?_
  refine j_iload_n (pc := 1) dX2_read_1 rfl ?_
  refine j_putf (pc := 2) dX2_read_2 fl_X2_15 (jfit_i _) (by apply lkE; (with_reducible first | exact lkX_1 | exact lkX_4e | exact lkX_4 | exact lkX_27 | exact lkX_p | exact lkX_d | exact lkX_34); rfl) upX_4 ?_
  refine j_aload_n (pc := 5) dX2_read_5 rfl ?_
  refine j_iconst (pc := 6) dX2_read_6 kc_0 ?_
  refine j_putf (pc := 7) dX2_read_7 fl_X2_19 (jfit_i _) (by apply lkE; (with_reducible first | exact lkX_1 | exact lkX_4e | exact lkX_4 | exact lkX_27 | exact lkX_p | exact lkX_d | exact lkX_34); rfl) upX_4 ?_
  refine j_aload_n (pc := 10) dX2_read_10 rfl ?_
  refine j_iconst (pc := 11) dX2_read_11 kc_0 ?_
  refine j_putf (pc := 12) dX2_read_12 fl_X2_22 (jfit_z false) (by apply lkE; (with_reducible first | exact lkX_1 | exact lkX_4e | exact lkX_4 | exact lkX_27 | exact lkX_p | exact lkX_d | exact lkX_34); rfl) (upX_4 (w1 := false)) ?_
  refine j_aload_n (pc := 15) dX2_read_15 rfl ?_
  refine j_iconst (pc := 16) dX2_read_16 kc_0 ?_
  refine j_putf (pc := 17) dX2_read_17 fl_X2_26 (jfit_z false) (by apply lkE; (with_reducible first | exact lkX_1 | exact lkX_4e | exact lkX_4 | exact lkX_27 | exact lkX_p | exact lkX_d | exact lkX_34); rfl) (upX_4 (w2 := false)) ?_
  refine j_aload_n (pc := 20) dX2_read_20 rfl ?_
  refine j_iconst (pc := 21) dX2_read_21 kc_0 ?_
  refine j_putf (pc := 22) dX2_read_22 fl_X2_29 (jfit_z false) (by apply lkE; (with_reducible first | exact lkX_1 | exact lkX_4e | exact lkX_4 | exact lkX_27 | exact lkX_p | exact lkX_d | exact lkX_34); rfl) (upX_4 (w3 := false)) ?_
  refine j_aload_n (pc := 25) dX2_read_25 rfl ?_
  refine j_v0n (pc := 26) (ci := 1) dX2_read_26 mc_X1_begin ml_X2_32 im_X1_begin se_X1_begin rfl rfl (by apply lkE; (with_reducible first | exact lkX_1 | exact lkX_4e | exact lkX_4 | exact lkX_27 | exact lkX_p | exact lkX_d | exact lkX_34); rfl) (by omega) (CD.heap (show _ = (W1 scr tl lt lc (nI L, rd.2.1, 0, rd.2.2.2.1, rd.2.2.2.2.1, false, false, false) sw P (0, 0, 0, 0, 80, 2, D.2.2.2.2.2.2.1, D.2.2.2.2.2.2.2.1, D.2.2.2.2.2.2.2.2.1, D.2.2.2.2.2.2.2.2.2.1, D.2.2.2.2.2.2.2.2.2.2) S kk nx ring bu im kept tb tr tc ts) from upX_d) (c_paBegin lkX_d)) (Nat.le_of_ble_eq_true rfl) ?_
  refine j_aload_n (pc := 29) dX2_read_29 rfl ?_
  refine j_v0n (pc := 30) (ci := 2) dX2_read_30 mc_X2_step ml_X2_37 im_X2_step se_X2_step rfl rfl (by apply lkE; (with_reducible first | exact lkX_1 | exact lkX_4e | exact lkX_4 | exact lkX_27 | exact lkX_p | exact lkX_d | exact lkX_34); rfl) (by omega) (CD.heap (show _ = (W1 scr tl lt lc (rdOf L (tkS lt L (0, 0, 0, rd.2.2.2.2.1, false, false, false))) sw P (0, 0, 0, 0, 80, 2, D.2.2.2.2.2.2.1, D.2.2.2.2.2.2.2.1, D.2.2.2.2.2.2.2.2.1, D.2.2.2.2.2.2.2.2.2.1, D.2.2.2.2.2.2.2.2.2.2) S kk nx ring bu im kept tb tr tc ts) from rfl) (x_step0 (bh := 0) (sa := rd.2.1) (tk := rd.2.2.2.1) (vl := rd.2.2.2.2.1) hL (Nat.zero_le _))) (Nat.le_of_ble_eq_true rfl) ?_
  refine j_iconst (pc := 33) dX2_read_33 kc_0 ?_
  refine j_istore_n (pc := 34) dX2_read_34 rfl (Nat.le_of_ble_eq_true rfl) rfl ?_
  refine xl_read hL 150 0 (tkS lt L (0, 0, 0, rd.2.2.2.2.1, false, false, false)) (0, 0, 0, 0, 80, 2, D.2.2.2.2.2.2.1, D.2.2.2.2.2.2.2.1, D.2.2.2.2.2.2.2.2.1, D.2.2.2.2.2.2.2.2.2.1, D.2.2.2.2.2.2.2.2.2.2) (by omega) (tkS_ok ⟨Nat.zero_le _, Nat.zero_le _⟩) ?_
  change J g mX2_read 5 0 0 _ (W1 scr tl lt lc (rdOf L (rdF lt L rd.2.2.2.2.1 D).1) sw P ((rdF lt L rd.2.2.2.2.1 D).2) S kk nx ring bu im kept tb tr tc ts) 163 _ _
  refine j_aload_n (pc := 163) dX2_read_163 rfl ?_
  refine j_getf (pc := 164) dX2_read_164 fl_X2_22 (by apply lkE; (with_reducible first | exact lkX_1 | exact lkX_4e | exact lkX_4 | exact lkX_27 | exact lkX_p | exact lkX_d | exact lkX_34); rfl) rfl ?_
  refine j_beq (pc := 167) (tgt := 177) dX2_read_167 rfl (fun zc167 => ?_) (fun zc167 => ?_)
  · refine j_iconst (pc := 177) dX2_read_177 kc_m1 ?_
    refine j_ireturn (pc := 178) dX2_read_178 rfl ?_
    refine ⟨?_, rfl⟩
    have zq : (rdF lt L rd.2.2.2.2.1 D).1.2.2.2.2.1 = _ := zc167
    rw [zq]
    rfl
  · refine j_aload_n (pc := 170) dX2_read_170 rfl ?_
    refine j_getf (pc := 171) dX2_read_171 fl_X2_59 (by apply lkE; (with_reducible first | exact lkX_1 | exact lkX_4e | exact lkX_4 | exact lkX_27 | exact lkX_p | exact lkX_d | exact lkX_34); rfl) rfl ?_
    refine j_goto (pc := 174) (tgt := 178) dX2_read_174 rfl ?_
    refine j_ireturn (pc := 178) dX2_read_178 rfl ?_
    refine ⟨?_, rfl⟩
    have zq : (rdF lt L rd.2.2.2.2.1 D).1.2.2.2.2.1 = _ := zc167
    rw [zq]
    rfl

theorem x_readT {L : Nat} (hL : L ≤ 150) (hw : (rdF lt L rd.2.2.2.2.1 D).1.2.2.2.2.1 = true) : CD g 5 mX2_read [.ref 4, .int (nI L), .ref (pd sw)] (W1 scr tl lt lc rd sw P D S kk nx ring bu im kept tb tr tc ts) (some (.int (nI (rdF lt L rd.2.2.2.2.1 D).1.1))) (W1 scr tl lt lc (rdOf L (rdF lt L rd.2.2.2.2.1 D).1) sw P ((rdF lt L rd.2.2.2.2.1 D).2) S kk nx ring bu im kept tb tr tc ts) := by
  have z := @x_read g scr tl lt lc rd sw P D S kk nx ring bu im kept tb tr tc ts L hL
  rw [hw] at z
  exact z
theorem x_readF {L : Nat} (hL : L ≤ 150) (hw : (rdF lt L rd.2.2.2.2.1 D).1.2.2.2.2.1 = false) : CD g 5 mX2_read [.ref 4, .int (nI L), .ref (pd sw)] (W1 scr tl lt lc rd sw P D S kk nx ring bu im kept tb tr tc ts) (some (.int (-1))) (W1 scr tl lt lc (rdOf L (rdF lt L rd.2.2.2.2.1 D).1) sw P ((rdF lt L rd.2.2.2.2.1 D).2) S kk nx ring bu im kept tb tr tc ts) := by
  have z := @x_read g scr tl lt lc rd sw P D S kk nx ring bu im kept tb tr tc ts L hL
  rw [hw] at z
  exact z
set_option maxRecDepth 20000 in
set_option maxHeartbeats 200000 in
theorem x_gate1 {L : Nat} (hL : L ≤ 150) (hw : (rdF lt L rd.2.2.2.2.1 D).1.2.2.2.2.1 = true) (h1 : Q (some (.int (-10 - nI (rdF lt L rd.2.2.2.2.1 D).1.1))) (W1 scr tl lt (nI L) (rdOf L (rdF lt L rd.2.2.2.2.1 D).1) sw P ((rdF lt L rd.2.2.2.2.1 D).2) S kk nx ring bu im kept tb tr tc ts)) : C g 6 0 0 mX6_gate [.ref 1] (W1 scr tl lt (nI L) rd sw P D S kk nx ring bu im kept tb tr tc ts) Q := by
  refine C.of (by decide +kernel) (by simp [Value.category]) (Nat.le_of_ble_eq_true rfl) ?_
  change J g mX6_gate 6 0 0 _ (W1 scr tl lt (nI L) rd sw P D S kk nx ring bu im kept tb tr tc ts) 0 [some (.ref 1), none, none] []
  refine j_aload_n (pc := 0) dX6_gate_0 rfl ?_
  refine j_getf (pc := 1) dX6_gate_1 fl_X6_23 (by apply lkE; (with_reducible first | exact lkX_1 | exact lkX_4e | exact lkX_4 | exact lkX_27 | exact lkX_p | exact lkX_d | exact lkX_34); rfl) rfl ?_
  refine j_aload_n (pc := 4) dX6_gate_4 rfl ?_
  refine j_getf (pc := 5) dX6_gate_5 fl_X6_75 (by apply lkE; (with_reducible first | exact lkX_1 | exact lkX_4e | exact lkX_4 | exact lkX_27 | exact lkX_p | exact lkX_d | exact lkX_34); rfl) rfl ?_
  refine j_aload_n (pc := 8) dX6_gate_8 rfl ?_
  refine j_getf (pc := 9) dX6_gate_9 fl_X6_34 (by apply lkE; (with_reducible first | exact lkX_1 | exact lkX_4e | exact lkX_4 | exact lkX_27 | exact lkX_p | exact lkX_d | exact lkX_34); rfl) rfl ?_
  refine j_v2 (pc := 12) (ci := 2) dX6_gate_12 mc_X2_read ml_X6_83 im_X2_read se_X2_read rfl rfl (by apply lkE; (with_reducible first | exact lkX_1 | exact lkX_4e | exact lkX_4 | exact lkX_27 | exact lkX_p | exact lkX_d | exact lkX_34); rfl) (by omega) (x_readT hL hw) (Nat.le_of_ble_eq_true rfl) ?_
  refine j_istore_n (pc := 15) dX6_gate_15 rfl (Nat.le_of_ble_eq_true rfl) rfl ?_
  refine j_iload_n (pc := 16) dX6_gate_16 rfl ?_
  refine j_iconst (pc := 17) dX6_gate_17 kc_m1 ?_
  refine j_icmp_eq (pc := 18) (tgt := 26) dX6_gate_18 rfl (fun zc18 => absurd zc18 (nI_m1 (n := (rdF lt L rd.2.2.2.2.1 D).1.1) (by have := (rdF_ok (lt := lt) (L := L) (v := rd.2.2.2.2.1) (D := D)).1; omega))) (fun _ => ?_)
  refine j_bipush (pc := 21) dX6_gate_21 kb_m10 ?_
  refine j_iload_n (pc := 23) dX6_gate_23 rfl ?_
  refine j_isub (pc := 24) dX6_gate_24 ?_
  refine j_ireturn (pc := 25) dX6_gate_25 rfl ?_
  exact h1

set_option maxRecDepth 20000 in
set_option maxHeartbeats 200000 in
theorem x_gate2 {L : Nat} (hL : L ≤ 150) (hw : (rdF lt L rd.2.2.2.2.1 D).1.2.2.2.2.1 = false) (h1 : Q (some (.int (rdF lt L rd.2.2.2.2.1 D).2.1)) (W1 scr tl lt (0) (rdOf L (rdF lt L rd.2.2.2.2.1 D).1) (!sw) ((rdF lt L rd.2.2.2.2.1 D).2) (P) (0, 0, (rdF lt L rd.2.2.2.2.1 D).2.2.2.2.2.2.1, (rdF lt L rd.2.2.2.2.1 D).2.2.2.2.2.2.2.2.2.1, (rdF lt L rd.2.2.2.2.1 D).2.2.2.2.2.2.2.2.2.2.1, fun _ => -9) (0) nx ring bu im (0) tb tr (0) ts)) : C g 6 0 0 mX6_gate [.ref 1] (W1 scr tl lt (nI L) rd sw P D S kk nx ring bu im kept tb tr tc ts) Q := by
  refine C.of (by decide +kernel) (by simp [Value.category]) (Nat.le_of_ble_eq_true rfl) ?_
  change J g mX6_gate 6 0 0 _ (W1 scr tl lt (nI L) rd sw P D S kk nx ring bu im kept tb tr tc ts) 0 [some (.ref 1), none, none] []
  refine j_aload_n (pc := 0) dX6_gate_0 rfl ?_
  refine j_getf (pc := 1) dX6_gate_1 fl_X6_23 (by apply lkE; (with_reducible first | exact lkX_1 | exact lkX_4e | exact lkX_4 | exact lkX_27 | exact lkX_p | exact lkX_d | exact lkX_34); rfl) rfl ?_
  refine j_aload_n (pc := 4) dX6_gate_4 rfl ?_
  refine j_getf (pc := 5) dX6_gate_5 fl_X6_75 (by apply lkE; (with_reducible first | exact lkX_1 | exact lkX_4e | exact lkX_4 | exact lkX_27 | exact lkX_p | exact lkX_d | exact lkX_34); rfl) rfl ?_
  refine j_aload_n (pc := 8) dX6_gate_8 rfl ?_
  refine j_getf (pc := 9) dX6_gate_9 fl_X6_34 (by apply lkE; (with_reducible first | exact lkX_1 | exact lkX_4e | exact lkX_4 | exact lkX_27 | exact lkX_p | exact lkX_d | exact lkX_34); rfl) rfl ?_
  refine j_v2 (pc := 12) (ci := 2) dX6_gate_12 mc_X2_read ml_X6_83 im_X2_read se_X2_read rfl rfl (by apply lkE; (with_reducible first | exact lkX_1 | exact lkX_4e | exact lkX_4 | exact lkX_27 | exact lkX_p | exact lkX_d | exact lkX_34); rfl) (by omega) (x_readF hL hw) (Nat.le_of_ble_eq_true rfl) ?_
  refine j_istore_n (pc := 15) dX6_gate_15 rfl (Nat.le_of_ble_eq_true rfl) rfl ?_
  refine j_iload_n (pc := 16) dX6_gate_16 rfl ?_
  refine j_iconst (pc := 17) dX6_gate_17 kc_m1 ?_
  refine j_icmp_eq (pc := 18) (tgt := 26) dX6_gate_18 rfl (fun _ => ?_) (fun zc18 => absurd (rfl : (-1 : Int32) = -1) zc18)
  refine j_aload_n (pc := 26) dX6_gate_26 rfl ?_
  refine j_getf (pc := 27) dX6_gate_27 fl_X6_30 (by apply lkE; (with_reducible first | exact lkX_1 | exact lkX_4e | exact lkX_4 | exact lkX_27 | exact lkX_p | exact lkX_d | exact lkX_34); rfl) rfl ?_
  refine j_astore_n (pc := 30) dX6_gate_30 rfl (Nat.le_of_ble_eq_true rfl) rfl ?_
  refine j_aload_n (pc := 31) dX6_gate_31 rfl ?_
  refine j_aload_n (pc := 32) dX6_gate_32 rfl ?_
  refine j_getf (pc := 33) dX6_gate_33 fl_X6_34 (by apply lkE; (with_reducible first | exact lkX_1 | exact lkX_4e | exact lkX_4 | exact lkX_27 | exact lkX_p | exact lkX_d | exact lkX_34); rfl) rfl ?_
  refine j_putf (pc := 36) dX6_gate_36 fl_X6_30 (jfit_r _ _) (by apply lkE; (with_reducible first | exact lkX_1 | exact lkX_4e | exact lkX_4 | exact lkX_27 | exact lkX_p | exact lkX_d | exact lkX_34); rfl) rfl ?_
  refine j_aload_n (pc := 39) dX6_gate_39 rfl ?_
  refine j_aload_n (pc := 40) dX6_gate_40 rfl ?_
  refine j_putf (pc := 41) dX6_gate_41 fl_X6_34 (jfit_r _ _) (get_eq lkX_1) ((List.set_set _).trans upX_sw2) ?_
  refine j_aload_n (pc := 44) dX6_gate_44 rfl ?_
  refine j_getf (pc := 45) dX6_gate_45 fl_X6_40 (by apply lkE; (with_reducible first | exact lkX_1 | exact lkX_4e | exact lkX_4 | exact lkX_27 | exact lkX_p | exact lkX_d | exact lkX_34); rfl) rfl ?_
  refine j_aload_n (pc := 48) dX6_gate_48 rfl ?_
  refine j_getf (pc := 49) dX6_gate_49 fl_X6_30 (by apply lkE; (with_reducible first | exact lkX_1 | exact lkX_4e | exact lkX_4 | exact lkX_27 | exact lkX_p | exact lkX_d | exact lkX_34); rfl) rfl ?_
  refine j_v1n (pc := 52) (ci := 4) dX6_gate_52 mc_X4_begin ml_X6_44 im_X4_begin se_X4_begin rfl rfl (by apply lkE; (with_reducible first | exact lkX_1 | exact lkX_4e | exact lkX_4 | exact lkX_27 | exact lkX_p | exact lkX_d | exact lkX_34); rfl) (by omega) (CD.heap sc_set (c_scBegin ⟨lkX_27, lkX_28, lkX_29, lkX_30, lkX_31, lkX_32, lkX_33⟩ (Or.inr (pa_le _)) lkX_p lkX_p5 lkX_p6 lkX_p7 lkX_p8)) (Nat.le_of_ble_eq_true rfl) ?_
  refine j_aload_n (pc := 55) dX6_gate_55 rfl ?_
  refine j_getf (pc := 56) dX6_gate_56 fl_X6_51 (by apply lkE; (with_reducible first | exact lkX_1 | exact lkX_4e | exact lkX_4 | exact lkX_27 | exact lkX_p | exact lkX_d | exact lkX_34); rfl) rfl ?_
  refine j_v0n (pc := 59) (ci := 0) dX6_gate_59 mc_X0_loseAll ml_X6_87 im_X0_loseAll se_X0_loseAll rfl rfl (by apply lkE; (with_reducible first | exact lkX_1 | exact lkX_4e | exact lkX_4 | exact lkX_27 | exact lkX_p | exact lkX_d | exact lkX_34); rfl) (by omega) (CD.heap upX_34 (c_loseAll lkX_34)) (Nat.le_of_ble_eq_true rfl) ?_
  refine j_aload_n (pc := 62) dX6_gate_62 rfl ?_
  refine j_iconst (pc := 63) dX6_gate_63 kc_0 ?_
  refine j_putf (pc := 64) dX6_gate_64 fl_X6_90 (jfit_i _) (by apply lkE; (with_reducible first | exact lkX_1 | exact lkX_4e | exact lkX_4 | exact lkX_27 | exact lkX_p | exact lkX_d | exact lkX_34); rfl) upX_1 ?_
  refine j_aload_n (pc := 67) dX6_gate_67 rfl ?_
  refine j_iconst (pc := 68) dX6_gate_68 kc_0 ?_
  refine j_putf (pc := 69) dX6_gate_69 fl_X6_93 (jfit_i _) (by apply lkE; (with_reducible first | exact lkX_1 | exact lkX_4e | exact lkX_4 | exact lkX_27 | exact lkX_p | exact lkX_d | exact lkX_34); rfl) upX_1 ?_
  refine j_aload_n (pc := 72) dX6_gate_72 rfl ?_
  refine j_iconst (pc := 73) dX6_gate_73 kc_0 ?_
  refine j_putf (pc := 74) dX6_gate_74 fl_X6_75 (jfit_i _) (by apply lkE; (with_reducible first | exact lkX_1 | exact lkX_4e | exact lkX_4 | exact lkX_27 | exact lkX_p | exact lkX_d | exact lkX_34); rfl) upX_1 ?_
  refine j_aload_n (pc := 77) dX6_gate_77 rfl ?_
  refine j_getf (pc := 78) dX6_gate_78 fl_X6_30 (by apply lkE; (with_reducible first | exact lkX_1 | exact lkX_4e | exact lkX_4 | exact lkX_27 | exact lkX_p | exact lkX_d | exact lkX_34); rfl) rfl ?_
  refine j_getf (pc := 81) dX6_gate_81 fl_X6_96 (by apply lkE; (with_reducible first | exact lkX_1 | exact lkX_4e | exact lkX_4 | exact lkX_27 | exact lkX_p | exact lkX_d | exact lkX_34); rfl) rfl ?_
  refine j_ireturn (pc := 84) dX6_gate_84 rfl ?_
  exact h1

end

/-! lays, undo, keep, back answer alike -/
section
variable {g : GG} {scr : AC} {lt : Fn} {lc : Int32} {rd : RdV} {sw : Bool} {P : ParV} {D : ParV} {S : ScV} {kk : Int32} {nx : Int32} {ring : Nat → ScV} {bu : Fn} {im : Nat → ScV} {kept : Int32} {tb : Fn} {tr : Fn} {tc : Int32} {ts : Int64} {de : Int32} {we : Fn} {da : Int32} {bo : Fn} {be : Int32} {sg : Fn} {pi : Int32} {ru : Int32} {st : Fn} {wa : Fn} {kn : Int32} {mi : Fn} {ik : Nat → Bool} {tm : Int32} {to : Fn} {mr : Int64} {tx : Fn} {tn : Int32} {cu : Int32} {sa : Int32} {tk : Int32} {nu : Int32} {wr : Bool} {it : Int32} {sd : Int32} {swt : Fn} {sdd : Int32} {sbx : Fn} {sfl : Fn} {sdi : Fn} {sb : Int32} {sst : Fn} {sp : Int32} {sr : Int32} {nw : Fn} {od : Fn} {bs : Fn}
theorem tI_add {x y : Int32} (h1 : -2147483648 ≤ x.toInt + y.toInt) (h2 : x.toInt + y.toInt ≤ 2147483647) : (x + y).toInt = x.toInt + y.toInt := by
  rw [Int32.toInt_add]
  exact Int.bmod_eq_of_le (by omega) (by omega)
theorem tI_sub {x y : Int32} (h1 : -2147483648 ≤ x.toInt - y.toInt) (h2 : x.toInt - y.toInt ≤ 2147483647) : (x - y).toInt = x.toInt - y.toInt := by
  rw [Int32.toInt_sub]
  exact Int.bmod_eq_of_le (by omega) (by omega)
theorem jin_i {v lo hi : Int32} (h : jin v lo hi = true) : lo.toInt ≤ v.toInt ∧ v.toInt ≤ hi.toInt := by
  unfold jin at h
  rw [Bool.and_eq_true, decide_eq_true_iff, decide_eq_true_iff, Int32.lt_iff_toInt_lt, Int32.lt_iff_toInt_lt] at h
  omega
theorem jin_of {v lo hi : Int32} (h1 : lo.toInt ≤ v.toInt) (h2 : v.toInt ≤ hi.toInt) : jin v lo hi = true := by
  unfold jin
  rw [Bool.and_eq_true, decide_eq_true_iff, decide_eq_true_iff, Int32.lt_iff_toInt_lt, Int32.lt_iff_toInt_lt]
  omega
theorem mw_b {ne : Nat} (hne : ne ≤ 6) {f : Fn} {lo hi : Int32} (hlo : -100 ≤ lo.toInt) (hlo2 : lo.toInt ≤ 0) (hhi : hi.toInt ≤ 100) (hhi2 : 0 ≤ hi.toInt) (hf : ∀ k, k < ne → jin (f k) lo hi = true) (s : Int32) : ∀ (m k : Nat) (a : Int32), k + m = ne → lo.toInt * k ≤ a.toInt → a.toInt ≤ hi.toInt * k → lo.toInt * ne ≤ (iter (mwStep f s) m k a).toInt ∧ (iter (mwStep f s) m k a).toInt ≤ hi.toInt * ne
  | 0, k, a, e, h1, h2 => by
    have e : k = ne := by omega
    subst e
    exact ⟨h1, h2⟩
  | m + 1, k, a, e, h1, h2 => by
    show lo.toInt * ne ≤ (iter (mwStep f s) m (k + 1) (mwStep f s k a)).toInt ∧ (iter (mwStep f s) m (k + 1) (mwStep f s k a)).toInt ≤ hi.toInt * ne
    have hj := jin_i (hf k (by omega))
    have k6 : (k : Int) ≤ 6 := by omega
    have kp : 0 ≤ (k : Int) := by omega
    have b1 : -600 ≤ lo.toInt * k := by
      have : -100 * (k : Int) ≤ lo.toInt * k := Int.mul_le_mul_of_nonneg_right hlo kp
      omega
    have b2 : hi.toInt * k ≤ 600 := by
      have : hi.toInt * k ≤ 100 * (k : Int) := Int.mul_le_mul_of_nonneg_right hhi kp
      omega
    have c1 : lo.toInt * ((k + 1 : Nat) : Int) = lo.toInt * k + lo.toInt := by rw [Int.natCast_add, Int.mul_add]; simp
    have c2 : hi.toInt * ((k + 1 : Nat) : Int) = hi.toInt * k + hi.toInt := by rw [Int.natCast_add, Int.mul_add]; simp
    have st : lo.toInt * k + lo.toInt ≤ (mwStep f s k a).toInt ∧ (mwStep f s k a).toInt ≤ hi.toInt * k + hi.toInt := by
      unfold mwStep
      split
      · rw [tI_add (by omega) (by omega)]
        omega
      · rw [Int32.add_zero]
        omega
    exact mw_b hne hlo hlo2 hhi hhi2 hf s m (k + 1) _ (by omega) (by rw [c1]; exact st.1) (by rw [c2]; exact st.2)
theorem nb_rng {ru pin nd ld : Int32} (h1 : 0 ≤ ru.toInt) (h2 : ru.toInt ≤ 100) (h3 : 0 ≤ nd.toInt) (h4 : nd.toInt ≤ pin.toInt) (h5 : 0 ≤ ld.toInt) (h6 : ld.toInt ≤ 10000) : 0 ≤ (nbI ru pin nd ld).toInt ∧ (nbI ru pin nd ld).toInt ≤ pin.toInt := by
  have e1 : (ld - ru).toInt = ld.toInt - ru.toInt := tI_sub (by omega) (by omega)
  have e2 : (ld + ru).toInt = ld.toInt + ru.toInt := tI_add (by omega) (by omega)
  unfold nbI imin
  simp only [Int32.lt_iff_toInt_lt]
  by_cases c1 : nd.toInt < (ld - ru).toInt
  · rw [if_pos c1]
    by_cases c2 : pin.toInt < (ld - ru).toInt
    · rw [if_pos c2]; omega
    · rw [if_neg c2]; omega
  · rw [if_neg c1]
    by_cases c3 : (ld + ru).toInt < nd.toInt
    · rw [if_pos c3]
      by_cases c2 : pin.toInt < (ld + ru).toInt
      · rw [if_pos c2]; omega
      · rw [if_neg c2]; omega
    · rw [if_neg c3]
      by_cases c2 : pin.toInt < nd.toInt
      · rw [if_pos c2]; omega
      · rw [if_neg c2]; omega
theorem tr_b {n ne nb : Nat} (hn : n ≤ 6) (hne : ne ≤ 6) (hP : PR n ne nb P de we da bo be sg pi ru) (hS : SR n ne pi S st) {j : Nat} (hj : j < n) : -200 ≤ (trI we bo st ne j).toInt ∧ (trI we bo st ne j).toInt ≤ 200 := by
  have b := jin_i (hP.2.2.2.2.2.2.1 j hj).2
  have f := jin_i (hS.2.1 j hj).2.2.2.2
  have s := mw_b hne (lo := -20) (hi := 20) (by decide) (by decide) (by decide) (by decide) (fun k hk => (hP.2.2.2.2.2.1 k hk).2) (st (9 + j)) ne 0 0 (by omega) (by decide) (by decide)
  have x1 : (-20 : Int32).toInt = -20 := rfl
  have x2 : (20 : Int32).toInt = 20 := rfl
  have x3 : (40 : Int32).toInt = 40 := rfl
  have x4 : (1 : Int32).toInt = 1 := rfl
  have x5 : (0 : Int32).toInt = 0 := rfl
  have x6 : (9 : Int32).toInt = 9 := rfl
  rw [x4, x3] at b
  rw [x5, x6] at f
  rw [x1, x2] at s
  have e1 : (bo j + st (3 + j)).toInt = (bo j).toInt + (st (3 + j)).toInt := tI_add (by omega) (by omega)
  unfold trI mwI
  rw [tI_add (by rw [e1]; omega) (by rw [e1]; omega), e1]
  omega
theorem ml_b {n ne nb : Nat} (hn : n ≤ 6) (hne : ne ≤ 6) (hP : PR n ne nb P de we da bo be sg pi ru) (hS : SR n ne pi S st) {j : Nat} (hj : j < n) : 0 ≤ (mlI we bo st ne j).toInt ∧ (mlI we bo st ne j).toInt ≤ 209 := by
  have t := tr_b hn hne hP hS hj
  have f := jin_i hS.2.2.2.1
  have x1 : (-9 : Int32).toInt = -9 := rfl
  have x2 : (9 : Int32).toInt = 9 := rfl
  have x3 : (0 : Int32).toInt = 0 := rfl
  rw [x1, x2] at f
  have e := tI_add (x := trI we bo st ne j) (y := st 1) (by omega) (by omega)
  unfold mlI
  by_cases c : trI we bo st ne j + st 1 < 0
  · rw [if_pos c, x3]
    omega
  · rw [if_neg c]
    have c2 : ¬ (trI we bo st ne j + st 1).toInt < (0 : Int32).toInt := fun q => c (Int32.lt_iff_toInt_lt.mpr q)
    rw [x3] at c2
    omega
theorem SR_lay {n ne nb j : Nat} (hn : n ≤ 6) (hne : ne ≤ 6) (hP : PR n ne nb P de we da bo be sg pi ru) (hS : SR n ne pi S st) (hj : j < n) : SR n ne pi (nbS P S (laT pi st (mlI we bo st ne j)) 0, 0, S.2.2.1, S.2.2.2.1, S.2.2.2.2.1, upd S.2.2.2.2.2 j (laT pi st (mlI we bo st ne j))) (laN pi st (mlI we bo st ne j) j) := by
  have hb := ml_b hn hne hP hS hj
  have x3 : (0 : Int32).toInt = 0 := rfl
  have x2 : (9 : Int32).toInt = 9 := rfl
  have r0 := jin_i hS.2.2.1
  have r2 := jin_i hS.2.2.2.2
  have hp2 := jin_i hP.2.2.2.2.2.2.2.2
  rw [x3] at r0
  rw [x3, x2] at r2
  have hT : 0 ≤ (laT pi st (mlI we bo st ne j)).toInt ∧ (laT pi st (mlI we bo st ne j)).toInt ≤ pi.toInt := nb_rng (by omega) (by omega) (by omega) (by omega) (by omega) (by omega)
  have hU : 0 ≤ (nbI (st 2) pi (laT pi st (mlI we bo st ne j)) 0).toInt ∧ (nbI (st 2) pi (laT pi st (mlI we bo st ne j)) 0).toInt ≤ pi.toInt := nb_rng (by omega) (by omega) (by omega) (by omega) (by omega) (by rw [x3]; omega)
  generalize hTT : laT pi st (mlI we bo st ne j) = T at hT hU ⊢
  have eL : laN pi st (mlI we bo st ne j) j = upd (upd (upd (upd st 0 T) (15 + j) T) 0 (nbI (st 2) pi T 0)) 1 0 := by
    have z2 : upd (upd st 0 T) (15 + j) T 2 = st 2 := by
      unfold upd
      rw [if_neg (by omega), if_neg (by omega)]
    have z0 : upd (upd st 0 T) (15 + j) T 0 = T := by
      unfold upd
      rw [if_neg (by omega), if_pos rfl]
    unfold laN mvN
    rw [show nbI (st 2) pi (st 0) (mlI we bo st ne j) = T from hTT, hTT, z2, z0]
  rw [eL]
  have w : ∀ t, 2 ≤ t → ¬ t = 15 + j → upd (upd (upd (upd st 0 T) (15 + j) T) 0 (nbI (st 2) pi T 0)) 1 0 t = st t := fun t h1 h2 => by
    unfold upd
    rw [if_neg (by omega), if_neg (by omega), if_neg h2, if_neg (by omega)]
  have w0 : upd (upd (upd (upd st 0 T) (15 + j) T) 0 (nbI (st 2) pi T 0)) 1 0 0 = nbI (st 2) pi T 0 := by
    unfold upd
    rw [if_neg (by omega), if_pos rfl]
  have w1 : upd (upd (upd (upd st 0 T) (15 + j) T) 0 (nbI (st 2) pi T 0)) 1 0 1 = 0 := if_pos rfl
  have wj : upd (upd (upd (upd st 0 T) (15 + j) T) 0 (nbI (st 2) pi T 0)) 1 0 (15 + j) = T := by
    unfold upd
    rw [if_neg (by omega), if_neg (by omega), if_pos rfl]
  refine ⟨⟨?_, ?_, ?_⟩, fun k hk => ?_, ?_, ?_, ?_⟩
  · rw [w0]
    show nbI S.2.2.1 P.2.2.2.2.1 T 0 = _
    rw [hS.1.2.2, hP.2.2.2.1]
  · rw [w1]
  · rw [w 2 (by omega) (by omega)]
    exact hS.1.2.2
  · have e := hS.2.1 k hk
    rw [w (3 + k) (by omega) (by omega), w (9 + k) (by omega) (by omega)]
    by_cases q : k = j
    · subst q
      rw [wj]
      have v1 : upd S.2.2.2.2.2 k T k = T := if_pos rfl
      exact ⟨e.1, e.2.1, v1, e.2.2.2.1, e.2.2.2.2⟩
    · rw [w (15 + k) (by omega) (by omega)]
      have v1 : upd S.2.2.2.2.2 j T k = S.2.2.2.2.2 k := if_neg q
      exact ⟨e.1, e.2.1, v1.trans e.2.2.1, e.2.2.2.1, e.2.2.2.2⟩
  · rw [w0]
    exact jin_of (by rw [x3]; exact hU.1) hU.2
  · rw [w1]
    decide
  · rw [w 2 (by omega) (by omega)]
    exact hS.2.2.2.2
set_option maxRecDepth 20000 in
set_option maxHeartbeats 200000 in
theorem p_lays {i : Int32} (hR : RelB lt lc P S kk nx ring im kept tb tr tc ts de we da bo be sg pi ru st wa kn mi ik tm to mr tx tn) : Pair g scr mX6_lays mX7_lays [.int i] (W2 (W1 scr [] lt lc rd sw P D S kk nx ring bu im kept tb tr tc ts) de we da bo be sg pi ru st wa kn mi ik tm to mr tx tn cu sa tk nu wr it sd swt sdd sbx sfl sdi sb sst sp sr nw od bs) := by
  have hR0 := hR
  obtain ⟨n, ne, nb, nt, L, q, j, hN, hP, hS, hH, hI, hT, hL, ht⟩ := hR
  by_cases h : jlt i (nI n) = true
  · obtain ⟨k, hk, hi⟩ := jlt_nat (n := n) (by have := hN.1; omega) h
    have h6 := hN.1
    have hf : jlt i P.2.2.1 = false → False := fun z => no_f (jlt_c hP.2.1.1 h) z
    have hf2 : jlt i da = false → False := fun z => no_f (jlt_c hP.2.1.2 h) z
    have kk2 : ∀ k2 : Nat, k2 < n → i = nI k2 → k2 = k := fun k2 hk2 e => nIi (a := k2) (b := k) (by omega) (by omega) (e.symm.trans hi)
    have ec : isCh S i = decide (¬ st (15 + k) = -9) := by rw [hi, isCh_eq hN.1 hS hk]
    have er : rdI P S i = laT pi st (mlI we bo st ne k) := by rw [hi, rd_eq hN.1 hN.2.1 hP hS hk]
    by_cases hb : st (15 + k) = -9
    · have hx : isCh S i = true → False := fun z => by rw [ec] at z; exact (of_decide_eq_true z) hb
      exact pairJ (show ∀ tl : List AC, CD g 20 mX6_lays [.ref 1, .int i] (W1 scr tl lt lc rd sw P D S kk nx ring bu im kept tb tr tc ts) (some (.int (laT pi st (mlI we bo st ne k)))) (W1 scr tl lt lc rd sw P D (nbS P S (laT pi st (mlI we bo st ne k)) 0, 0, S.2.2.1, S.2.2.2.1, S.2.2.2.2.1, rPut 6 S.2.2.2.2.2 i (laT pi st (mlI we bo st ne k))) (nI (min (q + 1) 10)) (nI (nj j)) (updS ring j S) bu im kept tb tr tc ts) from fun tl => C.deeper (by decide) (x_lays hH.2.2.1 hN.2.2.2.2.2.2 hH.1 hN.2.2.2.2.2.1 (fun z => (hf z).elim) (fun _ z => (hx z).elim) (fun _ _ => by rw [er]; exact ⟨rfl, rfl⟩))) (fun pre h2 => ∃ (nw9 : Fn), h2 = (W2 pre de we da bo be sg pi ru (laN pi st (mlI we bo st ne k) k) (reW wa st q) (nI (min (q + 1) 10)) mi ik tm to mr tx tn cu sa tk nu wr it sd swt sdd sbx sfl sdi sb sst sp sr (nw9) od bs)) (show ∀ pre : List AC, pre.length = 129 → C g 20 0 0 mX7_lays [.ref 129, .int i] (W2 pre de we da bo be sg pi ru st wa kn mi ik tm to mr tx tn cu sa tk nu wr it sd swt sdd sbx sfl sdi sb sst sp sr nw od bs) (fun r h2 => r = some (.int (laT pi st (mlI we bo st ne k))) ∧ ∃ (nw9 : Fn), h2 = (W2 pre de we da bo be sg pi ru (laN pi st (mlI we bo st ne k) k) (reW wa st q) (nI (min (q + 1) 10)) mi ik tm to mr tx tn cu sa tk nu wr it sd swt sdd sbx sfl sdi sb sst sp sr (nw9) od bs)) from fun pre hp => C.deeper (by decide) (m_lays hp hP.2.1.2 hN.1 hP.1.2 hN.2.1 hH.2.1 hN.2.2.2.2.2.1 (fun z => (hf2 z).elim) (fun k2 hk2 e z => by rw [kk2 k2 hk2 e] at z; exact absurd hb z) (fun k2 hk2 e _ => by rw [kk2 k2 hk2 e]; exact ⟨rfl, _, rfl⟩))) (fun pre h2 q9 => by
      obtain ⟨nw9, q9⟩ := q9
      exact ⟨_, _, _, _, _, _, _, _, _, _, _, _, _, _, _, _, _, _, _, _, _, _, _, _, _, _, _, _, _, _, _, _, _, _, _, _, _, (show RelB lt lc P (nbS P S (laT pi st (mlI we bo st ne k)) 0, 0, S.2.2.1, S.2.2.2.1, S.2.2.2.2.1, rPut 6 S.2.2.2.2.2 i (laT pi st (mlI we bo st ne k))) (nI (min (q + 1) 10)) (nI (nj j)) (updS ring j S) im kept tb tr tc ts de we da bo be sg pi ru (laN pi st (mlI we bo st ne k) k) (reW wa st q) (nI (min (q + 1) 10)) mi ik tm to mr tx tn from ⟨n, ne, nb, nt, L, min (q + 1) 10, nj j, NR_rem hN, hP, by rw [rP hi (show k < 6 by omega) (by decide)]; exact SR_lay hN.1 hN.2.1 hP hS hk, HR_rem hN.1 hN.2.2.2.2.2.1 hN.2.2.2.2.2.2 hH hS, hI, hT, hL, ht⟩), q9⟩)
    · have hx : isCh S i = false → False := fun z => by rw [ec] at z; exact (of_decide_eq_false z) hb
      exact pairI (show ∀ tl : List AC, CD g 20 mX6_lays [.ref 1, .int i] (W1 scr tl lt lc rd sw P D S kk nx ring bu im kept tb tr tc ts) (some (.int (-2))) (W1 scr tl lt lc rd sw P D S kk nx ring bu im kept tb tr tc ts) from fun tl => C.deeper (by decide) (x_lays hH.2.2.1 hN.2.2.2.2.2.2 hH.1 hN.2.2.2.2.2.1 (fun z => (hf z).elim) (fun _ _ => ⟨rfl, rfl⟩) (fun _ z => (hx z).elim))) (show ∀ pre : List AC, pre.length = 129 → CD g 20 mX7_lays [.ref 129, .int i] (W2 pre de we da bo be sg pi ru st wa kn mi ik tm to mr tx tn cu sa tk nu wr it sd swt sdd sbx sfl sdi sb sst sp sr nw od bs) (some (.int (-2))) (W2 pre de we da bo be sg pi ru st wa kn mi ik tm to mr tx tn cu sa tk nu wr it sd swt sdd sbx sfl sdi sb sst sp sr nw od bs) from fun pre hp => C.deeper (by decide) (m_lays hp hP.2.1.2 hN.1 hP.1.2 hN.2.1 hH.2.1 hN.2.2.2.2.2.1 (fun z => (hf2 z).elim) (fun _ _ _ _ => ⟨rfl, rfl⟩) (fun k2 hk2 e z => by rw [kk2 k2 hk2 e] at z; exact absurd z hb))) (show RelB lt lc P S kk nx ring im kept tb tr tc ts de we da bo be sg pi ru st wa kn mi ik tm to mr tx tn from hR0)
  · have h := bne_f h
    exact pairI (show ∀ tl : List AC, CD g 20 mX6_lays [.ref 1, .int i] (W1 scr tl lt lc rd sw P D S kk nx ring bu im kept tb tr tc ts) (some (.int (-1))) (W1 scr tl lt lc rd sw P D S kk nx ring bu im kept tb tr tc ts) from fun tl => C.deeper (by decide) (x_lays hH.2.2.1 hN.2.2.2.2.2.2 hH.1 hN.2.2.2.2.2.1 (fun _ => ⟨rfl, rfl⟩) (fun z => (no_f z (jlt_c hP.2.1.1 h)).elim) (fun z => (no_f z (jlt_c hP.2.1.1 h)).elim))) (show ∀ pre : List AC, pre.length = 129 → CD g 20 mX7_lays [.ref 129, .int i] (W2 pre de we da bo be sg pi ru st wa kn mi ik tm to mr tx tn cu sa tk nu wr it sd swt sdd sbx sfl sdi sb sst sp sr nw od bs) (some (.int (-1))) (W2 pre de we da bo be sg pi ru st wa kn mi ik tm to mr tx tn cu sa tk nu wr it sd swt sdd sbx sfl sdi sb sst sp sr nw od bs) from fun pre hp => C.deeper (by decide) (m_lays hp hP.2.1.2 hN.1 hP.1.2 hN.2.1 hH.2.1 hN.2.2.2.2.2.1 (fun _ => ⟨rfl, rfl⟩) (fun k2 hk2 e _ => (no_f (by rw [e]; exact jlt_in hk2 (by have := hN.1; omega)) h).elim) (fun k2 hk2 e _ => (no_f (by rw [e]; exact jlt_in hk2 (by have := hN.1; omega)) h).elim))) (show RelB lt lc P S kk nx ring im kept tb tr tc ts de we da bo be sg pi ru st wa kn mi ik tm to mr tx tn from hR0)
theorem pj_mod {j : Nat} (hj : j < 10) : pj j = (j + 9) % 10 := by
  unfold pj
  split <;> omega
theorem HR_undo {n ne q2 j : Nat} {kk nx kn : Int32} {ring : Nat → ScV} (hj : j < 10) (hq : q2 < 10) (hH : HR n ne (q2 + 1) j pi kk nx ring kn wa) : HR n ne q2 (pj j) pi (nI q2) (nI (pj j)) ring (nI q2) wa := by
  refine ⟨rfl, rfl, rfl, fun i hi => ?_⟩
  have z := hH.2.2.2 i (by omega)
  rw [pj_mod hj, show ((j + 9) % 10 + 10 - q2 + i) % 10 = (j + 10 - (q2 + 1) + i) % 10 by omega]
  exact z
theorem SR_undo {n ne q2 j : Nat} {kk nx kn : Int32} {ring : Nat → ScV} (hn : n ≤ 6) (hj : j < 10) (hq : q2 < 10) (hH : HR n ne (q2 + 1) j pi kk nx ring kn wa) : SR n ne pi (ring (pj j)) (cpyF st wa 0 (21 * q2) 21) := by
  have z := hH.2.2.2 q2 (by omega)
  rw [show (j + 10 - (q2 + 1) + q2) % 10 = pj j by rw [pj_mod hj]; omega] at z
  refine SR.congr hn (fun t ht => ?_) z
  unfold cpyF
  rw [if_pos (by omega)]
  exact congrArg wa (by omega)
theorem SR_back {n ne j : Nat} {V : ScV} (hn : n ≤ 6) (z : SR n ne pi V (fun t => mi (21 * j + t))) : SR n ne pi V (cpyF st mi 0 (21 * j) 21) := by
  refine SR.congr hn (fun t ht => ?_) z
  unfold cpyF
  rw [if_pos (by omega)]
  exact congrArg mi (by omega)
theorem kp_bit {x j : Nat} (hx : x < 4) (hj : j < 2) : (x ||| 2 ^ j) < 4 ∧ nI x ||| bitI (nI j) = nI (x ||| 2 ^ j) ∧ ∀ c, c < 2 → tbit (nI x ||| bitI (nI j)) (nI c) = (if c = j then true else tbit (nI x) (nI c)) := by
  have : ∀ x, x < 4 → ∀ j, j < 2 → (x ||| 2 ^ j) < 4 ∧ nI x ||| bitI (nI j) = nI (x ||| 2 ^ j) ∧ ∀ c, c < 2 → tbit (nI x ||| bitI (nI j)) (nI c) = (if c = j then true else tbit (nI x) (nI c)) := by decide +kernel
  exact this x hx j hj
theorem IR_keep {n ne j : Nat} (hn : n ≤ 6) (hj : j < 2) (hS : SR n ne pi S st) (hI : IR n ne pi im kept mi ik) : IR n ne pi (updS im j S) (kept ||| bitI (nI j)) (cpyF mi st (21 * j) 0 21) (updB ik j true) := by
  obtain ⟨⟨x, hx, ex⟩, h⟩ := hI
  obtain ⟨k1, k2, k3⟩ := kp_bit hx hj
  rw [ex] at h ⊢
  refine ⟨⟨_, k1, k2⟩, fun c hc => ?_⟩
  rw [k3 c hc]
  unfold updB updS
  by_cases e : c = j
  · subst e
    rw [if_pos rfl, if_pos rfl, if_pos rfl]
    refine ⟨rfl, fun _ => SR.congr hn (fun t ht => ?_) hS⟩
    unfold cpyF
    rw [if_pos (by omega)]
    exact congrArg st (by omega)
  · rw [if_neg e, if_neg e, if_neg e]
    refine ⟨(h c hc).1, fun z => SR.congr hn (fun t ht => ?_) ((h c hc).2 z)⟩
    unfold cpyF
    rw [if_neg (by omega)]
set_option maxRecDepth 20000 in
set_option maxHeartbeats 200000 in
theorem p_undo  (hR : RelB lt lc P S kk nx ring im kept tb tr tc ts de we da bo be sg pi ru st wa kn mi ik tm to mr tx tn) : Pair g scr mX6_undo mX7_undo [] (W2 (W1 scr [] lt lc rd sw P D S kk nx ring bu im kept tb tr tc ts) de we da bo be sg pi ru st wa kn mi ik tm to mr tx tn cu sa tk nu wr it sd swt sdd sbx sfl sdi sb sst sp sr nw od bs) := by
  have hR0 := hR
  obtain ⟨n, ne, nb, nt, L, q, j, hN, hP, hS, hH, hI, hT, hL, ht⟩ := hR
  by_cases h : q = 0
  · have e1 : kk = 0 := by rw [hH.1, h]; rfl
    have e2 : kn = 0 := by rw [hH.2.1, h]; rfl
    exact pairI (show ∀ tl : List AC, CD g 20 mX6_undo [.ref 1] (W1 scr tl lt lc rd sw P D S kk nx ring bu im kept tb tr tc ts) (some (.int (-2))) (W1 scr tl lt lc rd sw P D S kk nx ring bu im kept tb tr tc ts) from fun tl => C.deeper (by decide) (x_undo0 e1 ⟨rfl, rfl⟩)) (show ∀ pre : List AC, pre.length = 129 → CD g 20 mX7_undo [.ref 129] (W2 pre de we da bo be sg pi ru st wa kn mi ik tm to mr tx tn cu sa tk nu wr it sd swt sdd sbx sfl sdi sb sst sp sr nw od bs) (some (.int (-2))) (W2 pre de we da bo be sg pi ru st wa kn mi ik tm to mr tx tn cu sa tk nu wr it sd swt sdd sbx sfl sdi sb sst sp sr nw od bs) from fun pre hp => C.deeper (by decide) (m_undo0 hp e2 ⟨rfl, rfl⟩)) (show RelB lt lc P S kk nx ring im kept tb tr tc ts de we da bo be sg pi ru st wa kn mi ik tm to mr tx tn from hR0)
  · obtain ⟨q2, rfl⟩ : ∃ q2, q = q2 + 1 := ⟨q - 1, by omega⟩
    have hq := hN.2.2.2.2.2.1
    have hj := hN.2.2.2.2.2.2
    exact pairI (show ∀ tl : List AC, CD g 20 mX6_undo [.ref 1] (W1 scr tl lt lc rd sw P D S kk nx ring bu im kept tb tr tc ts) (some (.int (nI q2))) (W1 scr tl lt lc rd sw P D (ring (pj j)) (nI q2) (nI (pj j)) ring bu im kept tb tr tc ts) from fun tl => C.deeper (by decide) (x_undo1 hH.2.2.1 hj hH.1 (by omega) ⟨rfl, rfl⟩)) (show ∀ pre : List AC, pre.length = 129 → CD g 20 mX7_undo [.ref 129] (W2 pre de we da bo be sg pi ru st wa kn mi ik tm to mr tx tn cu sa tk nu wr it sd swt sdd sbx sfl sdi sb sst sp sr nw od bs) (some (.int (nI q2))) (W2 pre de we da bo be sg pi ru (cpyF st wa 0 (21 * q2) 21) wa (nI q2) mi ik tm to mr tx tn cu sa tk nu wr it sd swt sdd sbx sfl sdi sb sst sp sr nw od bs) from fun pre hp => C.deeper (by decide) (m_undo1 hp hH.2.1 (by omega) ⟨rfl, rfl⟩)) (show RelB lt lc P (ring (pj j)) (nI q2) (nI (pj j)) ring im kept tb tr tc ts de we da bo be sg pi ru (cpyF st wa 0 (21 * q2) 21) wa (nI q2) mi ik tm to mr tx tn from ⟨n, ne, nb, nt, L, q2, pj j, ⟨hN.1, hN.2.1, hN.2.2.1, hN.2.2.2.1, hN.2.2.2.2.1, by omega, pj_lt hj⟩, hP, SR_undo hN.1 hj (by omega) hH, HR_undo hj (by omega) hH, hI, hT, hL, ht⟩)
set_option maxRecDepth 20000 in
set_option maxHeartbeats 200000 in
theorem p_keep {c : Int32} (hR : RelB lt lc P S kk nx ring im kept tb tr tc ts de we da bo be sg pi ru st wa kn mi ik tm to mr tx tn) : Pair g scr mX6_keep mX7_keep [.int c] (W2 (W1 scr [] lt lc rd sw P D S kk nx ring bu im kept tb tr tc ts) de we da bo be sg pi ru st wa kn mi ik tm to mr tx tn cu sa tk nu wr it sd swt sdd sbx sfl sdi sb sst sp sr nw od bs) := by
  have hR0 := hR
  obtain ⟨n, ne, nb, nt, L, q, j, hN, hP, hS, hH, hI, hT, hL, ht⟩ := hR
  by_cases h : jin c 0 1 = true
  · obtain ⟨k, hk, hi⟩ := jin_nat (n := 1) (by decide) h
    have kk2 : ∀ k2 : Nat, k2 < 2 → c = nI k2 → k2 = k := fun k2 hk2 e => nIi (a := k2) (b := k) (by omega) (by omega) (e.symm.trans hi)
    exact pairI (show ∀ tl : List AC, CD g 20 mX6_keep [.ref 1, .int c] (W1 scr tl lt lc rd sw P D S kk nx ring bu im kept tb tr tc ts) (some (.int (st 0))) (W1 scr tl lt lc rd sw P D S kk nx ring bu (updS im k S) (kept ||| bitI (nI k)) tb tr tc ts) from fun tl => C.deeper (by decide) (x_keep (fun z => (no_f h z).elim) (fun k2 hk2 e => by rw [kk2 k2 hk2 e, hS.1.1]; exact ⟨rfl, rfl⟩))) (show ∀ pre : List AC, pre.length = 129 → CD g 20 mX7_keep [.ref 129, .int c] (W2 pre de we da bo be sg pi ru st wa kn mi ik tm to mr tx tn cu sa tk nu wr it sd swt sdd sbx sfl sdi sb sst sp sr nw od bs) (some (.int (st 0))) (W2 pre de we da bo be sg pi ru st wa kn (cpyF mi st (21 * k) 0 21) (updB ik k true) tm to mr tx tn cu sa tk nu wr it sd swt sdd sbx sfl sdi sb sst sp sr nw od bs) from fun pre hp => C.deeper (by decide) (m_keep hp (fun z => (no_f h z).elim) (fun k2 hk2 e => by rw [kk2 k2 hk2 e]; exact ⟨rfl, rfl⟩))) (show RelB lt lc P S kk nx ring (updS im k S) (kept ||| bitI (nI k)) tb tr tc ts de we da bo be sg pi ru st wa kn (cpyF mi st (21 * k) 0 21) (updB ik k true) tm to mr tx tn from ⟨n, ne, nb, nt, L, q, j, hN, hP, hS, hH, IR_keep hN.1 (by omega) hS hI, hT, hL, ht⟩)
  · exact pairI (show ∀ tl : List AC, CD g 20 mX6_keep [.ref 1, .int c] (W1 scr tl lt lc rd sw P D S kk nx ring bu im kept tb tr tc ts) (some (.int (-1))) (W1 scr tl lt lc rd sw P D S kk nx ring bu im kept tb tr tc ts) from fun tl => C.deeper (by decide) (x_keep (fun _ => ⟨rfl, rfl⟩) (fun k2 hk2 e => absurd (by rw [e]; exact jin_nI (m := 1) (by decide) (by omega)) h))) (show ∀ pre : List AC, pre.length = 129 → CD g 20 mX7_keep [.ref 129, .int c] (W2 pre de we da bo be sg pi ru st wa kn mi ik tm to mr tx tn cu sa tk nu wr it sd swt sdd sbx sfl sdi sb sst sp sr nw od bs) (some (.int (-1))) (W2 pre de we da bo be sg pi ru st wa kn mi ik tm to mr tx tn cu sa tk nu wr it sd swt sdd sbx sfl sdi sb sst sp sr nw od bs) from fun pre hp => C.deeper (by decide) (m_keep hp (fun _ => ⟨rfl, rfl⟩) (fun k2 hk2 e => absurd (by rw [e]; exact jin_nI (m := 1) (by decide) (by omega)) h))) (show RelB lt lc P S kk nx ring im kept tb tr tc ts de we da bo be sg pi ru st wa kn mi ik tm to mr tx tn from hR0)
set_option maxRecDepth 20000 in
set_option maxHeartbeats 200000 in
theorem p_back {c : Int32} (hR : RelB lt lc P S kk nx ring im kept tb tr tc ts de we da bo be sg pi ru st wa kn mi ik tm to mr tx tn) : Pair g scr mX6_back mX7_back [.int c] (W2 (W1 scr [] lt lc rd sw P D S kk nx ring bu im kept tb tr tc ts) de we da bo be sg pi ru st wa kn mi ik tm to mr tx tn cu sa tk nu wr it sd swt sdd sbx sfl sdi sb sst sp sr nw od bs) := by
  have hR0 := hR
  obtain ⟨n, ne, nb, nt, L, q, j, hN, hP, hS, hH, hI, hT, hL, ht⟩ := hR
  by_cases h : jin c 0 1 = true
  · obtain ⟨k, hk, hi⟩ := jin_nat (n := 1) (by decide) h
    have kk2 : ∀ k2 : Nat, k2 < 2 → c = nI k2 → k2 = k := fun k2 hk2 e => nIi (a := k2) (b := k) (by omega) (by omega) (e.symm.trans hi)
    have ik2 := hI.2 k (by omega)
    by_cases hb : ik k = true
    · have hbS := ik2.2 hb
      have eb := SR_back (st := st) hN.1 hbS
      exact pairI (show ∀ tl : List AC, CD g 20 mX6_back [.ref 1, .int c] (W1 scr tl lt lc rd sw P D S kk nx ring bu im kept tb tr tc ts) (some (.int (cpyF st mi 0 (21 * k) 21 0))) (W1 scr tl lt lc rd sw P D (im k) (0) nx ring bu im kept tb tr tc ts) from fun tl => C.deeper (by decide) (x_back (fun z => (no_f h z).elim) (fun k2 hk2 e z => by rw [kk2 k2 hk2 e, ik2.1, hb] at z; cases z) (fun k2 hk2 e _ => by rw [kk2 k2 hk2 e, eb.1.1]; exact ⟨rfl, rfl⟩))) (show ∀ pre : List AC, pre.length = 129 → CD g 20 mX7_back [.ref 129, .int c] (W2 pre de we da bo be sg pi ru st wa kn mi ik tm to mr tx tn cu sa tk nu wr it sd swt sdd sbx sfl sdi sb sst sp sr nw od bs) (some (.int (cpyF st mi 0 (21 * k) 21 0))) (W2 pre de we da bo be sg pi ru (cpyF st mi 0 (21 * k) 21) wa (0) mi ik tm to mr tx tn cu sa tk nu wr it sd swt sdd sbx sfl sdi sb sst sp sr nw od bs) from fun pre hp => C.deeper (by decide) (m_back hp (fun z => (no_f h z).elim) (fun k2 hk2 e z => by rw [kk2 k2 hk2 e, hb] at z; cases z) (fun k2 hk2 e _ => by rw [kk2 k2 hk2 e]; exact ⟨rfl, rfl⟩))) (show RelB lt lc P (im k) (0) nx ring im kept tb tr tc ts de we da bo be sg pi ru (cpyF st mi 0 (21 * k) 21) wa (0) mi ik tm to mr tx tn from ⟨n, ne, nb, nt, L, 0, j, ⟨hN.1, hN.2.1, hN.2.2.1, hN.2.2.2.1, hN.2.2.2.2.1, by omega, hN.2.2.2.2.2.2⟩, hP, eb, ⟨rfl, rfl, hH.2.2.1, fun i hi => absurd hi (Nat.not_lt_zero i)⟩, hI, hT, hL, ht⟩)
    · have hb := bne_f hb
      exact pairI (show ∀ tl : List AC, CD g 20 mX6_back [.ref 1, .int c] (W1 scr tl lt lc rd sw P D S kk nx ring bu im kept tb tr tc ts) (some (.int (-2))) (W1 scr tl lt lc rd sw P D S kk nx ring bu im kept tb tr tc ts) from fun tl => C.deeper (by decide) (x_back (fun z => (no_f h z).elim) (fun k2 hk2 e _ => ⟨rfl, rfl⟩) (fun k2 hk2 e z => by rw [kk2 k2 hk2 e, ik2.1, hb] at z; cases z))) (show ∀ pre : List AC, pre.length = 129 → CD g 20 mX7_back [.ref 129, .int c] (W2 pre de we da bo be sg pi ru st wa kn mi ik tm to mr tx tn cu sa tk nu wr it sd swt sdd sbx sfl sdi sb sst sp sr nw od bs) (some (.int (-2))) (W2 pre de we da bo be sg pi ru st wa kn mi ik tm to mr tx tn cu sa tk nu wr it sd swt sdd sbx sfl sdi sb sst sp sr nw od bs) from fun pre hp => C.deeper (by decide) (m_back hp (fun z => (no_f h z).elim) (fun k2 hk2 e _ => ⟨rfl, rfl⟩) (fun k2 hk2 e z => by rw [kk2 k2 hk2 e, hb] at z; cases z))) (show RelB lt lc P S kk nx ring im kept tb tr tc ts de we da bo be sg pi ru st wa kn mi ik tm to mr tx tn from hR0)
  · exact pairI (show ∀ tl : List AC, CD g 20 mX6_back [.ref 1, .int c] (W1 scr tl lt lc rd sw P D S kk nx ring bu im kept tb tr tc ts) (some (.int (-1))) (W1 scr tl lt lc rd sw P D S kk nx ring bu im kept tb tr tc ts) from fun tl => C.deeper (by decide) (x_back (fun _ => ⟨rfl, rfl⟩) (fun k2 hk2 e => absurd (by rw [e]; exact jin_nI (m := 1) (by decide) (by omega)) h) (fun k2 hk2 e => absurd (by rw [e]; exact jin_nI (m := 1) (by decide) (by omega)) h))) (show ∀ pre : List AC, pre.length = 129 → CD g 20 mX7_back [.ref 129, .int c] (W2 pre de we da bo be sg pi ru st wa kn mi ik tm to mr tx tn cu sa tk nu wr it sd swt sdd sbx sfl sdi sb sst sp sr nw od bs) (some (.int (-1))) (W2 pre de we da bo be sg pi ru st wa kn mi ik tm to mr tx tn cu sa tk nu wr it sd swt sdd sbx sfl sdi sb sst sp sr nw od bs) from fun pre hp => C.deeper (by decide) (m_back hp (fun _ => ⟨rfl, rfl⟩) (fun k2 hk2 e => absurd (by rw [e]; exact jin_nI (m := 1) (by decide) (by omega)) h) (fun k2 hk2 e => absurd (by rw [e]; exact jin_nI (m := 1) (by decide) (by omega)) h))) (show RelB lt lc P S kk nx ring im kept tb tr tc ts de we da bo be sg pi ru st wa kn mi ik tm to mr tx tn from hR0)
end

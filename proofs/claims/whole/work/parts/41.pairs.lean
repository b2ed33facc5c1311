/-! rate, life, can, ask answer alike -/
section
variable {g : GG} {scr : AC} {lt : Fn} {lc : Int32} {rd : RdV} {sw : Bool} {P : ParV} {D : ParV} {S : ScV} {kk : Int32} {nx : Int32} {ring : Nat → ScV} {bu : Fn} {im : Nat → ScV} {kept : Int32} {tb : Fn} {tr : Fn} {tc : Int32} {ts : Int64} {de : Int32} {we : Fn} {da : Int32} {bo : Fn} {be : Int32} {sg : Fn} {pi : Int32} {ru : Int32} {st : Fn} {wa : Fn} {kn : Int32} {mi : Fn} {ik : Nat → Bool} {tm : Int32} {to : Fn} {mr : Int64} {tx : Fn} {tn : Int32} {cu : Int32} {sa : Int32} {tk : Int32} {nu : Int32} {wr : Bool} {it : Int32} {sd : Int32} {swt : Fn} {sdd : Int32} {sbx : Fn} {sfl : Fn} {sdi : Fn} {sb : Int32} {sst : Fn} {sp : Int32} {sr : Int32} {nw : Fn} {od : Fn} {bs : Fn}
theorem md_nI (d : Int32) (f : Fn) : ∀ (m k y : Nat), k + m ≤ 6 → y < 64 → ∃ z : Nat, z < 64 ∧ iter (mdStep f d) m k (nI y) = nI z
  | 0, _, y, _, hy => ⟨y, hy, rfl⟩
  | m + 1, k, y, h, hy => by
    show ∃ z : Nat, z < 64 ∧ iter (mdStep f d) m (k + 1) (mdStep f d k (nI y)) = nI z
    unfold mdStep
    by_cases c : mhas (f (9 + k)) d = true
    · rw [if_pos c, (or_bit (ne := 6) (by decide) hy (show k < 6 by omega)).2]
      exact md_nI d f m (k + 1) _ (by omega) (or_bit (ne := 6) (by decide) hy (show k < 6 by omega)).1
    · rw [if_neg c, Int32.or_zero]
      exact md_nI d f m (k + 1) y (by omega) hy
theorem rt_eq {n ne nb : Nat} {kd : Int32} (hn : n ≤ 6) (hne : ne ≤ 6) (hP : PR n ne nb P de we da bo be sg pi ru) (hS : SR n ne pi S st) {j : Nat} (hj : j < ne) : rtI P S n kd (nI j) = mrtI we st n j kd := by
  obtain ⟨z, hz, ez⟩ := md_nI (nI j) st n 0 0 (by omega) (by decide)
  have e0 : iter (mdStep st (nI j)) n 0 0 = nI z := ez
  have eb : bcI (iter (wdStep S (nI j)) n 0 0) = mbits (iter (mdStep st (nI j)) n 0 0) := by rw [wd_eq hn hne hS hj, e0, bc_bits hz]
  have er : rAt 6 P.2.2.2.2.2.2.1 (nI j) = we j := by rw [rAt_in (by omega) (by decide), (hP.2.2.2.2.2.1 j hj).1]
  unfold rtI mrtI dbI liI mdb
  rw [eb, er, hS.1.1, hS.1.2.2]
set_option maxRecDepth 20000 in
set_option maxHeartbeats 200000 in
theorem p_rate {kd i : Int32} (hR : RelB lt lc P S kk nx ring im kept tb tr tc ts de we da bo be sg pi ru st wa kn mi ik tm to mr tx tn) : Pair g scr mX6_rate mX7_rate [.int kd, .int i] (W2 (W1 scr [] lt lc rd sw P D S kk nx ring bu im kept tb tr tc ts) de we da bo be sg pi ru st wa kn mi ik tm to mr tx tn cu sa tk nu wr it sd swt sdd sbx sfl sdi sb sst sp sr nw od bs) := by
  have hR0 := hR
  obtain ⟨n, ne, nb, nt, L, q, j, hN, hP, hS, hH, hI, hT, hL, ht⟩ := hR
  by_cases h2 : jin kd 0 5 = true
  · by_cases h : jlt i (nI ne) = true
    · obtain ⟨k, hk, hi⟩ := jlt_nat (n := ne) (by have := hN.2.1; omega) h
      have h6 := hN.2.1
      have hf : (jin kd 0 5 && jlt i P.2.1) = false → False := fun z => by rw [jlt_c hP.1.1 h, h2] at z; cases z
      have hf2 : (jin kd 0 5 && jlt i de) = false → False := fun z => by rw [jlt_c hP.1.2 h, h2] at z; cases z
      exact pairI (show ∀ tl : List AC, CD g 20 mX6_rate [.ref 1, .int kd, .int i] (W1 scr tl lt lc rd sw P D S kk nx ring bu im kept tb tr tc ts) (some (.int (mrtI we st n k kd))) (W1 scr tl lt lc rd sw P D S kk nx ring bu im kept tb tr tc (ts + rtT kd)) from fun tl => C.deeper (by decide) (x_rate hP.2.1.1 hN.1 (fun z => (hf z).elim) (fun _ _ => by rw [hi, rt_eq hN.1 hN.2.1 hP hS hk]; exact ⟨rfl, rfl⟩))) (show ∀ pre : List AC, pre.length = 129 → CD g 20 mX7_rate [.ref 129, .int kd, .int i] (W2 pre de we da bo be sg pi ru st wa kn mi ik tm to mr tx tn cu sa tk nu wr it sd swt sdd sbx sfl sdi sb sst sp sr nw od bs) (some (.int (mrtI we st n k kd))) (W2 pre de we da bo be sg pi ru st wa kn mi ik tm to (mr + rtT kd) tx tn cu sa tk nu wr it sd swt sdd sbx sfl sdi sb sst sp sr nw od bs) from fun pre hp => C.deeper (by decide) (m_rate hp hP.2.1.2 hN.1 hP.1.2 hN.2.1 (fun z => (hf2 z).elim) (fun k2 hk2 e _ => by rw [nIi (a := k2) (b := k) (by omega) (by omega) (e.symm.trans hi)]; exact ⟨rfl, rfl⟩))) (show RelB lt lc P S kk nx ring im kept tb tr tc (ts + rtT kd) de we da bo be sg pi ru st wa kn mi ik tm to (mr + rtT kd) tx tn from ⟨n, ne, nb, nt, L, q, j, hN, hP, hS, hH, hI, hT, hL, by rw [ht]⟩)
    · have h := bne_f h
      exact pairI (show ∀ tl : List AC, CD g 20 mX6_rate [.ref 1, .int kd, .int i] (W1 scr tl lt lc rd sw P D S kk nx ring bu im kept tb tr tc ts) (some (.int (-1000000))) (W1 scr tl lt lc rd sw P D S kk nx ring bu im kept tb tr tc ts) from fun tl => C.deeper (by decide) (x_rate hP.2.1.1 hN.1 (fun _ => ⟨rfl, rfl⟩) (fun _ z => (no_f z (jlt_c hP.1.1 h)).elim))) (show ∀ pre : List AC, pre.length = 129 → CD g 20 mX7_rate [.ref 129, .int kd, .int i] (W2 pre de we da bo be sg pi ru st wa kn mi ik tm to mr tx tn cu sa tk nu wr it sd swt sdd sbx sfl sdi sb sst sp sr nw od bs) (some (.int (-1000000))) (W2 pre de we da bo be sg pi ru st wa kn mi ik tm to mr tx tn cu sa tk nu wr it sd swt sdd sbx sfl sdi sb sst sp sr nw od bs) from fun pre hp => C.deeper (by decide) (m_rate hp hP.2.1.2 hN.1 hP.1.2 hN.2.1 (fun _ => ⟨rfl, rfl⟩) (fun k2 hk2 e _ => (no_f (by rw [e]; exact jlt_in hk2 (by have := hN.2.1; omega)) h).elim))) (show RelB lt lc P S kk nx ring im kept tb tr tc ts de we da bo be sg pi ru st wa kn mi ik tm to mr tx tn from hR0)
  · exact pairI (show ∀ tl : List AC, CD g 20 mX6_rate [.ref 1, .int kd, .int i] (W1 scr tl lt lc rd sw P D S kk nx ring bu im kept tb tr tc ts) (some (.int (-1000000))) (W1 scr tl lt lc rd sw P D S kk nx ring bu im kept tb tr tc ts) from fun tl => C.deeper (by decide) (x_rate hP.2.1.1 hN.1 (fun _ => ⟨rfl, rfl⟩) (fun z => absurd z h2))) (show ∀ pre : List AC, pre.length = 129 → CD g 20 mX7_rate [.ref 129, .int kd, .int i] (W2 pre de we da bo be sg pi ru st wa kn mi ik tm to mr tx tn cu sa tk nu wr it sd swt sdd sbx sfl sdi sb sst sp sr nw od bs) (some (.int (-1000000))) (W2 pre de we da bo be sg pi ru st wa kn mi ik tm to mr tx tn cu sa tk nu wr it sd swt sdd sbx sfl sdi sb sst sp sr nw od bs) from fun pre hp => C.deeper (by decide) (m_rate hp hP.2.1.2 hN.1 hP.1.2 hN.2.1 (fun _ => ⟨rfl, rfl⟩) (fun _ _ _ z => absurd z h2))) (show RelB lt lc P S kk nx ring im kept tb tr tc ts de we da bo be sg pi ru st wa kn mi ik tm to mr tx tn from hR0)
theorem or_lt {ne x k : Nat} (hne : ne ≤ 6) (hx : x < 2 ^ ne) (hk : k < 2 ^ ne) : (k ||| x) < 2 ^ ne ∧ nI k ||| nI x = nI (k ||| x) := by
  refine ⟨Nat.or_lt_two_pow hk hx, ?_⟩
  have : ∀ x, x < 64 → ∀ k, k < 64 → nI k ||| nI x = nI (k ||| x) := by decide +kernel
  exact this x (pow_le64 hne hx) k (pow_le64 hne hk)
theorem bc_lt7 {k : Nat} (hk : k < 64) : ¬ (7 : Int32) ≤ bcI (nI k) ∧ ¬ nI k < 0 := by
  have : ∀ k, k < 64 → ¬ (7 : Int32) ≤ bcI (nI k) ∧ ¬ nI k < 0 := by decide +kernel
  exact this k hk
theorem lf_eq {ne x : Nat} {f : Fn} {s : Int32} (hne : ne ≤ 6) (hf : ∀ k, k < ne → P.2.2.2.2.2.2.1 k = f k) (hx : x < 2 ^ ne) : ∀ (m k : Nat) (a : Int32 × Int32), k + m = 2 ^ ne → (a = (-9, 7) ∨ ∃ y, y < 64 ∧ a = (nI y, bcI (nI y))) → (iter (lifeStep P s (nI x)) m k a).1 = iter (mfStep f ne s (nI x)) m k a.1
  | 0, _, _, _, _ => rfl
  | m + 1, k, a, e, h => by
    show (iter (lifeStep P s (nI x)) m (k + 1) (lifeStep P s (nI x) k a)).1 = iter (mfStep f ne s (nI x)) m (k + 1) (mfStep f ne s (nI x) k a.1)
    have hk : k < 2 ^ ne := by omega
    have hk6 := pow_le64 hne hk
    have ol := or_lt hne hx hk
    have es : sumI P.2.2.2.2.2.2.1 (nI k ||| nI x) 6 0 0 = mwI f ne (nI k ||| nI x) := by
      rw [ol.2]
      exact sum_eq hne hf ol.1
    have key : lifeStep P s (nI x) k a = (mfStep f ne s (nI x) k a.1, (lifeStep P s (nI x) k a).2) ∧ (lifeStep P s (nI x) k a = (-9, 7) ∨ ∃ y, y < 64 ∧ lifeStep P s (nI x) k a = (nI y, bcI (nI y))) := by
      unfold lifeStep mfStep
      rw [es]
      by_cases c1 : nI k &&& nI x = 0
      · rw [if_pos c1, if_pos c1]
        by_cases c2 : s < mwI f ne (nI k ||| nI x)
        · rw [if_pos c2, if_pos c2]
          exact ⟨rfl, h⟩
        · rw [if_neg c2, if_neg c2]
          rcases h with rfl | ⟨y, hy, rfl⟩
          · rw [if_neg (bc_lt7 hk6).1]
            exact ⟨rfl, Or.inr ⟨k, hk6, rfl⟩⟩
          · show (if bcI (nI y) ≤ bcI (nI k) then (nI y, bcI (nI y)) else (nI k, bcI (nI k))) = (if nI y < 0 then nI k else if mbits (nI y) ≤ mbits (nI k) then nI y else nI k, (if bcI (nI y) ≤ bcI (nI k) then (nI y, bcI (nI y)) else (nI k, bcI (nI k))).2) ∧ _
            rw [if_neg (bc_lt7 hy).2, ← bc_bits hy, ← bc_bits hk6]
            by_cases c3 : bcI (nI y) ≤ bcI (nI k)
            · rw [if_pos c3, if_pos c3]
              exact ⟨rfl, Or.inr ⟨y, hy, rfl⟩⟩
            · rw [if_neg c3, if_neg c3]
              exact ⟨rfl, Or.inr ⟨k, hk6, rfl⟩⟩
      · rw [if_neg c1, if_neg c1]
        exact ⟨rfl, h⟩
    rw [lf_eq hne hf hx m (k + 1) _ (by omega) key.2]
    exact congrArg _ (congrArg Prod.fst key.1)
set_option maxRecDepth 20000 in
set_option maxHeartbeats 200000 in
theorem p_life {i s : Int32} (hR : RelB lt lc P S kk nx ring im kept tb tr tc ts de we da bo be sg pi ru st wa kn mi ik tm to mr tx tn) : Pair g scr mX6_life mX7_life [.int i, .int s] (W2 (W1 scr [] lt lc rd sw P D S kk nx ring bu im kept tb tr tc ts) de we da bo be sg pi ru st wa kn mi ik tm to mr tx tn cu sa tk nu wr it sd swt sdd sbx sfl sdi sb sst sp sr nw od bs) := by
  have hR0 := hR
  obtain ⟨n, ne, nb, nt, L, q, j, hN, hP, hS, hH, hI, hT, hL, ht⟩ := hR
  by_cases h2 : jin s (-99) 99 = true
  · by_cases h : jlt i (nI n) = true
    · obtain ⟨k, hk, hi⟩ := jlt_nat (n := n) (by have := hN.1; omega) h
      have h6 := hN.1
      have hf : (jlt i P.2.2.1 && jin s (-99) 99) = false → False := fun z => by rw [jlt_c hP.2.1.1 h, h2] at z; cases z
      have hf2 : (jlt i da && jin s (-99) 99) = false → False := fun z => by rw [jlt_c hP.2.1.2 h, h2] at z; cases z
      obtain ⟨x, hx, ex⟩ := (hS.2.1 k hk).2.2.2.1
      have el : lifeI P S ne i s = mfI we st ne k s := by
        unfold lifeI mfI
        rw [hi, sin_eq hN.1 hS hk, ex]
        exact lf_eq hN.2.1 (f := we) (fun k hk => (hP.2.2.2.2.2.1 k hk).1) hx _ 0 _ (by omega) (Or.inl rfl)
      exact pairI (show ∀ tl : List AC, CD g 20 mX6_life [.ref 1, .int i, .int s] (W1 scr tl lt lc rd sw P D S kk nx ring bu im kept tb tr tc ts) (some (.int (mfI we st ne k s))) (W1 scr tl lt lc rd sw P D S kk nx ring bu im kept tb tr tc ts) from fun tl => C.deeper (by decide) (x_life hP.1.1 hN.2.1 (fun z => (hf z).elim) (fun _ _ => by rw [el]; exact ⟨rfl, rfl⟩))) (show ∀ pre : List AC, pre.length = 129 → CD g 20 mX7_life [.ref 129, .int i, .int s] (W2 pre de we da bo be sg pi ru st wa kn mi ik tm to mr tx tn cu sa tk nu wr it sd swt sdd sbx sfl sdi sb sst sp sr nw od bs) (some (.int (mfI we st ne k s))) (W2 pre de we da bo be sg pi ru st wa kn mi ik tm to mr tx tn cu sa tk nu wr it sd swt sdd sbx sfl sdi sb sst sp sr nw od bs) from fun pre hp => C.deeper (by decide) (m_life hp hP.2.1.2 hN.1 hP.1.2 hN.2.1 (fun z => (hf2 z).elim) (fun k2 hk2 e _ => by rw [nIi (a := k2) (b := k) (by omega) (by omega) (e.symm.trans hi)]; exact ⟨rfl, rfl⟩))) (show RelB lt lc P S kk nx ring im kept tb tr tc ts de we da bo be sg pi ru st wa kn mi ik tm to mr tx tn from hR0)
    · have h := bne_f h
      exact pairI (show ∀ tl : List AC, CD g 20 mX6_life [.ref 1, .int i, .int s] (W1 scr tl lt lc rd sw P D S kk nx ring bu im kept tb tr tc ts) (some (.int (-1))) (W1 scr tl lt lc rd sw P D S kk nx ring bu im kept tb tr tc ts) from fun tl => C.deeper (by decide) (x_life hP.1.1 hN.2.1 (fun _ => ⟨rfl, rfl⟩) (fun z => (no_f z (jlt_c hP.2.1.1 h)).elim))) (show ∀ pre : List AC, pre.length = 129 → CD g 20 mX7_life [.ref 129, .int i, .int s] (W2 pre de we da bo be sg pi ru st wa kn mi ik tm to mr tx tn cu sa tk nu wr it sd swt sdd sbx sfl sdi sb sst sp sr nw od bs) (some (.int (-1))) (W2 pre de we da bo be sg pi ru st wa kn mi ik tm to mr tx tn cu sa tk nu wr it sd swt sdd sbx sfl sdi sb sst sp sr nw od bs) from fun pre hp => C.deeper (by decide) (m_life hp hP.2.1.2 hN.1 hP.1.2 hN.2.1 (fun _ => ⟨rfl, rfl⟩) (fun k2 hk2 e _ => (no_f (by rw [e]; exact jlt_in hk2 (by have := hN.1; omega)) h).elim))) (show RelB lt lc P S kk nx ring im kept tb tr tc ts de we da bo be sg pi ru st wa kn mi ik tm to mr tx tn from hR0)
  · exact pairI (show ∀ tl : List AC, CD g 20 mX6_life [.ref 1, .int i, .int s] (W1 scr tl lt lc rd sw P D S kk nx ring bu im kept tb tr tc ts) (some (.int (-1))) (W1 scr tl lt lc rd sw P D S kk nx ring bu im kept tb tr tc ts) from fun tl => C.deeper (by decide) (x_life hP.1.1 hN.2.1 (fun _ => ⟨rfl, rfl⟩) (fun _ z => absurd z h2))) (show ∀ pre : List AC, pre.length = 129 → CD g 20 mX7_life [.ref 129, .int i, .int s] (W2 pre de we da bo be sg pi ru st wa kn mi ik tm to mr tx tn cu sa tk nu wr it sd swt sdd sbx sfl sdi sb sst sp sr nw od bs) (some (.int (-1))) (W2 pre de we da bo be sg pi ru st wa kn mi ik tm to mr tx tn cu sa tk nu wr it sd swt sdd sbx sfl sdi sb sst sp sr nw od bs) from fun pre hp => C.deeper (by decide) (m_life hp hP.2.1.2 hN.1 hP.1.2 hN.2.1 (fun _ => ⟨rfl, rfl⟩) (fun _ _ _ z => absurd z h2))) (show RelB lt lc P S kk nx ring im kept tb tr tc ts de we da bo be sg pi ru st wa kn mi ik tm to mr tx tn from hR0)
theorem imax_le {x : Int32} : imax 0 x = if 0 ≤ x then x else 0 := by
  rw [imax_if]
  by_cases h : x < 0
  · rw [if_pos h, if_neg (fun e => absurd (Int32.le_iff_toInt_le.mp e) (by have := Int32.lt_iff_toInt_lt.mp h; omega))]
  · rw [if_neg h, if_pos (Int32.le_iff_toInt_le.mpr (by have : ¬ x.toInt < (0 : Int32).toInt := fun q => h (Int32.lt_iff_toInt_lt.mpr q); omega))]
theorem so_eq {n ne nb nt : Nat} {s : Nat} (hne : ne ≤ 6) (hP : PR n ne nb P de we da bo be sg pi ru) (hS : SR n ne pi S st) (hT : TR nt tb tr tc to tm) (hs : s < 2 ^ ne) : ∀ (m k : Nat) (b : Bool) (f : Fn), k + m = nt → f 2 = st 2 → (iter (soStep pi to we ne (nI s)) m k (b, f)).1 = (b && exL P S tb tr (sumI P.2.2.2.2.2.2.1 (nI s) 6 0 0) m k) ∧ (iter (soStep pi to we ne (nI s)) m k (b, f)).2 2 = st 2
  | 0, _, b, f, _, h => ⟨(Bool.and_true b).symm, h⟩
  | m + 1, k, b, f, e, h => by
    have e1 : soL pi f (ldS to we ne (nI s) k) 0 = nbS P S 0 (imax 0 (tb k + sumI P.2.2.2.2.2.2.1 (nI s) 6 0 0)) := by
      have u0 : upd f 0 0 0 = 0 := if_pos rfl
      have u2 : upd f 0 0 2 = f 2 := if_neg (by decide)
      show nbI (upd f 0 0 2) pi (upd f 0 0 0) (ldS to we ne (nI s) k) = nbI S.2.2.1 P.2.2.2.2.1 0 _
      rw [u0, u2, h, hS.1.2.2, hP.2.2.2.1, imax_le, (hT.2.2 k (by omega)).1, sum_eq hne (fun k hk => (hP.2.2.2.2.2.1 k hk).1) hs]
      rfl
    have e2 : soL pi f (ldS to we ne (nI s) k) 2 = st 2 := h
    show (iter (soStep pi to we ne (nI s)) m (k + 1) (b && decide (soL pi f (ldS to we ne (nI s) k) 0 = to (2 * k + 1)), soL pi f (ldS to we ne (nI s) k))).1 = (b && if nbS P S 0 (imax 0 (tb k + sumI P.2.2.2.2.2.2.1 (nI s) 6 0 0)) = tr k then exL P S tb tr (sumI P.2.2.2.2.2.2.1 (nI s) 6 0 0) m (k + 1) else false) ∧ (iter (soStep pi to we ne (nI s)) m (k + 1) (b && decide (soL pi f (ldS to we ne (nI s) k) 0 = to (2 * k + 1)), soL pi f (ldS to we ne (nI s) k))).2 2 = st 2
    obtain ⟨z1, z2⟩ := so_eq hne hP hS hT hs m (k + 1) (b && decide (soL pi f (ldS to we ne (nI s) k) 0 = to (2 * k + 1))) (soL pi f (ldS to we ne (nI s) k)) (by omega) e2
    refine ⟨?_, z2⟩
    rw [z1, e1, (hT.2.2 k (by omega)).2.1]
    by_cases c : nbS P S 0 (imax 0 (tb k + sumI P.2.2.2.2.2.2.1 (nI s) 6 0 0)) = to (2 * k + 1)
    · rw [if_pos c, decide_eq_true c, Bool.and_true]
    · rw [if_neg c, decide_eq_false c, Bool.and_false, Bool.false_and]
theorem cb_eqL {n ne nb nt : Nat} {w : Int32} (hne : ne ≤ 6) (hP : PR n ne nb P de we da bo be sg pi ru) (hS : SR n ne pi S st) (hT : TR nt tb tr tc to tm) : ∀ (m k : Nat) (a : Int32) (f : Fn), k + m = 2 ^ ne → f 2 = st 2 → (iter (cbStep pi to we ne nt w) m k (a, f)).1 = iter (swStep P S tb tr nt w) m k a
  | 0, _, _, _, _, _ => rfl
  | m + 1, k, a, f, e, h => by
    show (iter (cbStep pi to we ne nt w) m (k + 1) (cbStep pi to we ne nt w k (a, f))).1 = iter (swStep P S tb tr nt w) m (k + 1) (swStep P S tb tr nt w k a)
    have z := so_eq hne hP hS hT (show k < 2 ^ ne by omega) nt 0 true f (by omega) h
    show (iter (cbStep pi to we ne nt w) m (k + 1) (if nI k &&& w = w then (a + (if (soF pi to we ne nt f (nI k)).1 then 1 else 0), (soF pi to we ne nt f (nI k)).2) else (a, f))).1 = iter (swStep P S tb tr nt w) m (k + 1) (if nI k &&& w = w then (if exA P S tb tr nt (nI k) then a + 1 else a) else a)
    by_cases c : nI k &&& w = w
    · rw [if_pos c, if_pos c]
      have z1 : (soF pi to we ne nt f (nI k)).1 = exA P S tb tr nt (nI k) := by
        unfold soF exA
        rw [z.1, Bool.true_and]
      show (iter (cbStep pi to we ne nt w) m (k + 1) (a + (if (soF pi to we ne nt f (nI k)).1 = true then 1 else 0), (soF pi to we ne nt f (nI k)).2)).1 = _
      rw [cb_eqL hne hP hS hT m (k + 1) _ (soF pi to we ne nt f (nI k)).2 (by omega) z.2, z1]
      by_cases c2 : exA P S tb tr nt (nI k) = true
      · rw [if_pos c2, if_pos c2]
      · rw [if_neg c2, if_neg c2, Int32.add_zero]
    · rw [if_neg c, if_neg c]
      exact cb_eqL hne hP hS hT m (k + 1) a f (by omega) h
theorem cb_eq {n ne nb nt : Nat} (w : Int32) (hne : ne ≤ 6) (hP : PR n ne nb P de we da bo be sg pi ru) (hS : SR n ne pi S st) (hT : TR nt tb tr tc to tm) : cbI pi to we st ne nt w = swI P S tb tr nt ne w := by
  unfold cbI cbF swI
  exact cb_eqL hne hP hS hT _ 0 0 st (by omega) rfl
theorem mca1 {ne nt : Nat} : ∀ (m k : Nat) (a : Int32 × Int32), (iter (mcaStep pi to we st ne nt) m k a).1 = iter (fun k a => a ||| (if cbI pi to we st ne nt (bitI (nI k)) = cbI pi to we st ne nt 0 then bitI (nI k) else 0)) m k a.1
  | 0, _, _ => rfl
  | m + 1, k, a => mca1 m (k + 1) (mcaStep pi to we st ne nt k a)
theorem mca2 {ne nt : Nat} : ∀ (m k : Nat) (a : Int32 × Int32), (iter (mcaStep pi to we st ne nt) m k a).2 = iter (fun k a => a ||| (if cbI pi to we st ne nt (bitI (nI k)) ≤ 0 then 0 else bitI (nI k))) m k a.2
  | 0, _, _ => rfl
  | m + 1, k, a => mca2 m (k + 1) (mcaStep pi to we st ne nt k a)
theorem jin02 {c : Int32} (h : jin c 0 2 = true) : c = 0 ∨ c = 1 ∨ c = 2 := by
  obtain ⟨k, hk, e⟩ := jin_nat (n := 2) (by decide) h
  rcases (show k = 0 ∨ k = 1 ∨ k = 2 by omega) with rfl | rfl | rfl
  · exact Or.inl e
  · exact Or.inr (Or.inl e)
  · exact Or.inr (Or.inr e)
theorem ca_eq {n ne nb nt : Nat} {c : Int32} (hne : ne ≤ 6) (hP : PR n ne nb P de we da bo be sg pi ru) (hS : SR n ne pi S st) (hT : TR nt tb tr tc to tm) (hc : jin c 0 2 = true) : cnI P S tb tr nt ne c = mcaI pi to we st ne nt c := by
  have e1 : iter (daStep P S tb tr nt ne (swI P S tb tr nt ne 0)) ne 0 0 = (iter (mcaStep pi to we st ne nt) ne 0 (0, 0)).1 := by
    rw [mca1]
    refine iter_congr ne 0 0 (fun i b _ _ => ?_)
    unfold daStep
    rw [cb_eq _ hne hP hS hT, cb_eq _ hne hP hS hT]
    by_cases q : swI P S tb tr nt ne (bitI (nI i)) = swI P S tb tr nt ne 0
    · rw [if_pos q, if_pos q]
    · rw [if_neg q, if_neg q, Int32.or_zero]
  have e2 : iter (dsStep P S tb tr nt ne) ne 0 0 = (iter (mcaStep pi to we st ne nt) ne 0 (0, 0)).2 := by
    rw [mca2]
    refine iter_congr ne 0 0 (fun i b _ _ => ?_)
    unfold dsStep
    rw [cb_eq _ hne hP hS hT]
    by_cases q : swI P S tb tr nt ne (bitI (nI i)) ≤ 0
    · rw [if_pos q, if_pos q, Int32.or_zero]
    · rw [if_neg q, if_neg q]
  unfold cnI mcaI daI
  rw [e1, e2, cb_eq _ hne hP hS hT]
  rcases jin02 hc with rfl | rfl | rfl
  · rw [if_pos rfl, if_pos rfl]
  · rw [if_neg (show ¬ (1 : Int32) = 0 by decide), if_pos (show (1 : Int32) = 1 from rfl), if_neg (show ¬ (1 : Int32) = 0 by decide), if_neg (show ¬ (1 : Int32) = 2 by decide)]
  · rw [if_neg (show ¬ (2 : Int32) = 0 by decide), if_neg (show ¬ (2 : Int32) = 1 by decide), if_pos (show (2 : Int32) = 2 from rfl), if_neg (show ¬ (2 : Int32) = 0 by decide), if_pos (show (2 : Int32) = 2 from rfl)]
set_option maxRecDepth 20000 in
set_option maxHeartbeats 200000 in
theorem p_can {c : Int32} (hR : RelB lt lc P S kk nx ring im kept tb tr tc ts de we da bo be sg pi ru st wa kn mi ik tm to mr tx tn) : Pair g scr mX6_can mX7_can [.int c] (W2 (W1 scr [] lt lc rd sw P D S kk nx ring bu im kept tb tr tc ts) de we da bo be sg pi ru st wa kn mi ik tm to mr tx tn cu sa tk nu wr it sd swt sdd sbx sfl sdi sb sst sp sr nw od bs) := by
  have hR0 := hR
  obtain ⟨n, ne, nb, nt, L, q, j, hN, hP, hS, hH, hI, hT, hL, ht⟩ := hR
  by_cases h : jin c 0 2 = true
  · exact pairJ (show ∀ tl : List AC, CD g 20 mX6_can [.ref 1, .int c] (W1 scr tl lt lc rd sw P D S kk nx ring bu im kept tb tr tc ts) (some (.int (mcaI pi to we st ne nt c))) (W1 scr tl lt lc rd sw P D S kk nx ring bu im kept tb tr tc ts) from fun tl => C.deeper (by decide) (x_can hT.1 hN.2.2.2.1 hP.1.1 hN.2.1 ⟨by rw [ca_eq hN.2.1 hP hS hT h], rfl⟩)) (fun pre h2 => ∃ (nw9 : Fn), h2 = (W2 pre de we da bo be sg pi ru st wa kn mi ik tm to mr tx tn cu sa tk nu wr it sd swt sdd sbx sfl sdi sb sst sp sr (nw9) od bs)) (show ∀ pre : List AC, pre.length = 129 → C g 20 0 0 mX7_can [.ref 129, .int c] (W2 pre de we da bo be sg pi ru st wa kn mi ik tm to mr tx tn cu sa tk nu wr it sd swt sdd sbx sfl sdi sb sst sp sr nw od bs) (fun r h2 => r = some (.int (mcaI pi to we st ne nt c)) ∧ ∃ (nw9 : Fn), h2 = (W2 pre de we da bo be sg pi ru st wa kn mi ik tm to mr tx tn cu sa tk nu wr it sd swt sdd sbx sfl sdi sb sst sp sr (nw9) od bs)) from fun pre hp => C.deeper (by decide) (m_can hp hP.1.2 hN.2.1 hT.2.1 hN.2.2.2.1 (fun z => (no_f h z).elim) (fun nw2 _ => ⟨rfl, nw2, rfl⟩))) (fun pre h2 q9 => by
      obtain ⟨nw9, q9⟩ := q9
      exact ⟨_, _, _, _, _, _, _, _, _, _, _, _, _, _, _, _, _, _, _, _, _, _, _, _, _, _, _, _, _, _, _, _, _, _, _, _, _, (show RelB lt lc P S kk nx ring im kept tb tr tc ts de we da bo be sg pi ru st wa kn mi ik tm to mr tx tn from hR0), q9⟩)
  · have hc : cnI P S tb tr nt ne c = -1 := by
      unfold cnI
      rw [if_neg (fun z => h (by rw [z]; decide)), if_neg (fun z => h (by rw [z]; decide)), if_neg (fun z => h (by rw [z]; decide))]
    exact pairI (show ∀ tl : List AC, CD g 20 mX6_can [.ref 1, .int c] (W1 scr tl lt lc rd sw P D S kk nx ring bu im kept tb tr tc ts) (some (.int (-1))) (W1 scr tl lt lc rd sw P D S kk nx ring bu im kept tb tr tc ts) from fun tl => C.deeper (by decide) (x_can hT.1 hN.2.2.2.1 hP.1.1 hN.2.1 ⟨by rw [hc], rfl⟩)) (show ∀ pre : List AC, pre.length = 129 → CD g 20 mX7_can [.ref 129, .int c] (W2 pre de we da bo be sg pi ru st wa kn mi ik tm to mr tx tn cu sa tk nu wr it sd swt sdd sbx sfl sdi sb sst sp sr nw od bs) (some (.int (-1))) (W2 pre de we da bo be sg pi ru st wa kn mi ik tm to mr tx tn cu sa tk nu wr it sd swt sdd sbx sfl sdi sb sst sp sr nw od bs) from fun pre hp => C.deeper (by decide) (m_can hp hP.1.2 hN.2.1 hT.2.1 hN.2.2.2.1 (fun _ => ⟨rfl, rfl⟩) (fun _ z => absurd z h))) (show RelB lt lc P S kk nx ring im kept tb tr tc ts de we da bo be sg pi ru st wa kn mi ik tm to mr tx tn from hR0)
theorem sw_cnt {w : Int32} {nt : Nat} : ∀ (m k b c : Nat), b ≤ c → ∃ b2 c2 : Nat, iter (swStep P S tb tr nt w) m k (nI b) = nI b2 ∧ iter (swStep P S tb tr nt 0) m k (nI c) = nI c2 ∧ b2 ≤ c2 ∧ c2 ≤ c + m
  | 0, _, b, c, h => ⟨b, c, rfl, rfl, h, Nat.le_refl _⟩
  | m + 1, k, b, c, h => by
    show ∃ b2 c2 : Nat, iter (swStep P S tb tr nt w) m (k + 1) (swStep P S tb tr nt w k (nI b)) = nI b2 ∧ iter (swStep P S tb tr nt 0) m (k + 1) (swStep P S tb tr nt 0 k (nI c)) = nI c2 ∧ b2 ≤ c2 ∧ c2 ≤ c + (m + 1)
    show ∃ b2 c2 : Nat, iter (swStep P S tb tr nt w) m (k + 1) (if nI k &&& w = w then (if exA P S tb tr nt (nI k) then nI b + 1 else nI b) else nI b) = nI b2 ∧ iter (swStep P S tb tr nt 0) m (k + 1) (if nI k &&& 0 = 0 then (if exA P S tb tr nt (nI k) then nI c + 1 else nI c) else nI c) = nI c2 ∧ b2 ≤ c2 ∧ c2 ≤ c + (m + 1)
    rw [if_pos (show nI k &&& 0 = 0 from Int32.and_zero)]
    by_cases c2 : exA P S tb tr nt (nI k) = true
    · rw [if_pos c2, if_pos c2, nI_s1 b, nI_s1 c]
      by_cases c1 : nI k &&& w = w
      · rw [if_pos c1]
        obtain ⟨b3, c3, h1, h2, h3, h4⟩ := sw_cnt (w := w) (nt := nt) m (k + 1) (b + 1) (c + 1) (by omega)
        exact ⟨b3, c3, h1, h2, h3, by omega⟩
      · rw [if_neg c1]
        obtain ⟨b3, c3, h1, h2, h3, h4⟩ := sw_cnt (w := w) (nt := nt) m (k + 1) b (c + 1) (by omega)
        exact ⟨b3, c3, h1, h2, h3, by omega⟩
    · rw [if_neg c2, if_neg c2]
      obtain ⟨b3, c3, h1, h2, h3, h4⟩ := sw_cnt (w := w) (nt := nt) m (k + 1) b c h
      rw [ite_self]
      exact ⟨b3, c3, h1, h2, h3, by omega⟩
theorem pt_eq {all w : Int32} : imax w (all - w) = ptM all w := by
  unfold imax ptM
  by_cases h : w < all - w
  · rw [if_pos h, if_pos (Int32.le_iff_toInt_le.mpr (by have := Int32.lt_iff_toInt_lt.mp h; omega))]
  · rw [if_neg h]
    by_cases h2 : w ≤ all - w
    · rw [if_pos h2]
      apply Int32.toInt_inj.mp
      have h3 : ¬ w.toInt < (all - w).toInt := fun q => h (Int32.lt_iff_toInt_lt.mpr q)
      have := Int32.le_iff_toInt_le.mp h2
      omega
    · rw [if_neg h2]
theorem ak_eqL {n ne nb nt c0 : Nat} (hne : ne ≤ 6) (hP : PR n ne nb P de we da bo be sg pi ru) (hS : SR n ne pi S st) (hT : TR nt tb tr tc to tm) (hc0 : swI P S tb tr nt ne 0 = nI c0) (hc1 : c0 ≤ 64) : ∀ (m k : Nat) (a b : Int32 × Int32), k + m ≤ 6 → (a = (-9, nI c0 + 1) ∧ b = (-9, 0) ∨ a = b ∧ ¬ b.1 < 0) → (iter (akStep P S tb tr nt ne (nI c0)) m k a).1 = (iter (maStep pi to we st ne nt (nI c0)) m k b).1
  | 0, _, a, b, _, h => by
    rcases h with ⟨h1, h2⟩ | ⟨h1, _⟩
    · rw [h1, h2]
      rfl
    · rw [h1]
      rfl
  | m + 1, k, a, b, e, h => by
    show (iter (akStep P S tb tr nt ne (nI c0)) m (k + 1) (akStep P S tb tr nt ne (nI c0) k a)).1 = (iter (maStep pi to we st ne nt (nI c0)) m (k + 1) (maStep pi to we st ne nt (nI c0) k b)).1
    refine ak_eqL hne hP hS hT hc0 hc1 m (k + 1) _ _ (by omega) ?_
    unfold akStep maStep
    rw [cb_eq _ hne hP hS hT, pt_eq]
    have hk0 : ¬ nI k < 0 := nI_pos (by omega)
    rcases h with ⟨h1, h2⟩ | ⟨h1, h2⟩
    · rw [h1, h2]
      obtain ⟨b3, c3, q1, q2, q3, q4⟩ := sw_cnt (P := P) (S := S) (tb := tb) (tr := tr) (w := bitI (nI k)) (nt := nt) (2 ^ ne) 0 0 0 (Nat.le_refl _)
      have e1 : swI P S tb tr nt ne (bitI (nI k)) = nI b3 := q1
      have e2 : nI c0 = nI c3 := hc0.symm.trans q2
      have h64 := two_le hne
      have e3 : c0 = c3 := nIi (by omega) (by omega) e2
      rw [e1]
      have p : ¬ nI c0 + 1 ≤ ptM (nI c0) (nI b3) := by
        have t1 : (nI c0).toInt = c0 := nI_toInt (by omega)
        have t2 : (nI b3).toInt = b3 := nI_toInt (by omega)
        have t3 : (nI c0 - nI b3).toInt = (c0 : Int) - b3 := by rw [tI_sub (by omega) (by omega), t1, t2]
        have t4 : (nI c0 + 1).toInt = (c0 : Int) + 1 := by rw [nI_s1, nI_toInt (by omega)]; omega
        rw [Int32.le_iff_toInt_le, t4]
        unfold ptM
        split
        · rw [t3]; omega
        · rw [t2]; omega
      rw [if_neg p, if_pos (show ((-9 : Int32), (0 : Int32)).1 < 0 by decide)]
      exact Or.inr ⟨rfl, hk0⟩
    · rw [h1, if_neg h2]
      by_cases c : b.2 ≤ ptM (nI c0) (swI P S tb tr nt ne (bitI (nI k)))
      · rw [if_pos c]
        exact Or.inr ⟨rfl, h2⟩
      · rw [if_neg c]
        exact Or.inr ⟨rfl, hk0⟩
theorem ak_eq {n ne nb nt : Nat} (hne : ne ≤ 6) (hP : PR n ne nb P de we da bo be sg pi ru) (hS : SR n ne pi S st) (hT : TR nt tb tr tc to tm) : akI P S tb tr nt ne = maI pi to we st ne nt := by
  obtain ⟨b3, c3, q1, q2, q3, q4⟩ := sw_cnt (P := P) (S := S) (tb := tb) (tr := tr) (w := 0) (nt := nt) (2 ^ ne) 0 0 0 (Nat.le_refl _)
  have h64 := two_le hne
  have hc : swI P S tb tr nt ne 0 = nI c3 := q2
  unfold akI maI
  rw [cb_eq _ hne hP hS hT, hc]
  by_cases c : nI c3 ≤ 1
  · rw [if_pos c, if_neg (fun z => absurd (Int32.lt_iff_toInt_lt.mp z) (by have := Int32.le_iff_toInt_le.mp c; omega))]
  · have c2 : ¬ (nI c3).toInt ≤ (1 : Int32).toInt := fun z => c (Int32.le_iff_toInt_le.mpr z)
    rw [if_neg c, if_pos (Int32.lt_iff_toInt_lt.mpr (by omega))]
    exact ak_eqL hne hP hS hT hc (by omega) ne 0 _ _ (by omega) (Or.inl ⟨rfl, rfl⟩)
set_option maxRecDepth 20000 in
set_option maxHeartbeats 200000 in
theorem p_ask  (hR : RelB lt lc P S kk nx ring im kept tb tr tc ts de we da bo be sg pi ru st wa kn mi ik tm to mr tx tn) : Pair g scr mX6_ask mX7_ask [] (W2 (W1 scr [] lt lc rd sw P D S kk nx ring bu im kept tb tr tc ts) de we da bo be sg pi ru st wa kn mi ik tm to mr tx tn cu sa tk nu wr it sd swt sdd sbx sfl sdi sb sst sp sr nw od bs) := by
  have hR0 := hR
  obtain ⟨n, ne, nb, nt, L, q, j, hN, hP, hS, hH, hI, hT, hL, ht⟩ := hR
  exact pairJ (show ∀ tl : List AC, CD g 20 mX6_ask [.ref 1] (W1 scr tl lt lc rd sw P D S kk nx ring bu im kept tb tr tc ts) (some (.int (maI pi to we st ne nt))) (W1 scr tl lt lc rd sw P D S kk nx ring bu im kept tb tr tc ts) from fun tl => C.deeper (by decide) (show CD g 4 _ _ _ _ _ from by rw [← ak_eq hN.2.1 hP hS hT]; exact x_ask hT.1 hN.2.2.2.1 hP.1.1 hN.2.1)) (fun pre h2 => ∃ (nw9 : Fn), h2 = (W2 pre de we da bo be sg pi ru st wa kn mi ik tm to mr tx tn cu sa tk nu wr it sd swt sdd sbx sfl sdi sb sst sp sr (nw9) od bs)) (show ∀ pre : List AC, pre.length = 129 → C g 20 0 0 mX7_ask [.ref 129] (W2 pre de we da bo be sg pi ru st wa kn mi ik tm to mr tx tn cu sa tk nu wr it sd swt sdd sbx sfl sdi sb sst sp sr nw od bs) (fun r h2 => r = some (.int (maI pi to we st ne nt)) ∧ ∃ (nw9 : Fn), h2 = (W2 pre de we da bo be sg pi ru st wa kn mi ik tm to mr tx tn cu sa tk nu wr it sd swt sdd sbx sfl sdi sb sst sp sr (nw9) od bs)) from fun pre hp => C.deeper (by decide) (m_ask hp hP.1.2 hN.2.1 hT.2.1 hN.2.2.2.1 (fun nw2 => ⟨rfl, nw2, rfl⟩))) (fun pre h2 q9 => by
      obtain ⟨nw9, q9⟩ := q9
      exact ⟨_, _, _, _, _, _, _, _, _, _, _, _, _, _, _, _, _, _, _, _, _, _, _, _, _, _, _, _, _, _, _, _, _, _, _, _, _, (show RelB lt lc P S kk nx ring im kept tb tr tc ts de we da bo be sg pi ru st wa kn mi ik tm to mr tx tn from hR0), q9⟩)
end

/-! carry and odds answer alike -/
section
variable {g : GG} {scr : AC} {lt : Fn} {lc : Int32} {rd : RdV} {sw : Bool} {P : ParV} {D : ParV} {S : ScV} {kk : Int32} {nx : Int32} {ring : Nat → ScV} {bu : Fn} {im : Nat → ScV} {kept : Int32} {tb : Fn} {tr : Fn} {tc : Int32} {ts : Int64} {de : Int32} {we : Fn} {da : Int32} {bo : Fn} {be : Int32} {sg : Fn} {pi : Int32} {ru : Int32} {st : Fn} {wa : Fn} {kn : Int32} {mi : Fn} {ik : Nat → Bool} {tm : Int32} {to : Fn} {mr : Int64} {tx : Fn} {tn : Int32} {cu : Int32} {sa : Int32} {tk : Int32} {nu : Int32} {wr : Bool} {it : Int32} {sd : Int32} {swt : Fn} {sdd : Int32} {sbx : Fn} {sfl : Fn} {sdi : Fn} {sb : Int32} {sst : Fn} {sp : Int32} {sr : Int32} {nw : Fn} {od : Fn} {bs : Fn}
theorem wy_dec {f l : Nat} (hf : f < 64) (hl : l < 64) : wyI (nI f) (nI l) >>> (6 &&& 31) = nI f ∧ wyI (nI f) (nI l) &&& allI 6 = nI l ∧ ¬ wyI (nI f) (nI l) = -9 := by
  have : ∀ f, f < 64 → ∀ l, l < 64 → wyI (nI f) (nI l) >>> (6 &&& 31) = nI f ∧ wyI (nI f) (nI l) &&& allI 6 = nI l ∧ ¬ wyI (nI f) (nI l) = -9 := by decide +kernel
  exact this f hf l hl
theorem dif_bit {f l k : Nat} (hf : f < 64) (hl : l < 64) (hk : k < 6) (h : nI l &&& (nI f ^^^ -1) = 0) : mhas (nI (f &&& (63 ^^^ l))) (nI k) = (mhas (nI f) (nI k) && !mhas (nI l) (nI k)) ∧ (mhas (nI l) (nI k) = true → mhas (nI f) (nI k) = true) := by
  have e := dif_and hl hf
  rw [e.1] at h
  have h2 : (l &&& (63 ^^^ f)) = 0 := nIi (a := l &&& (63 ^^^ f)) (b := 0) (by omega) (by omega) h
  have : ∀ f, f < 64 → ∀ l, l < 64 → (l &&& (63 ^^^ f)) = 0 → ∀ k, k < 6 → mhas (nI (f &&& (63 ^^^ l))) (nI k) = (mhas (nI f) (nI k) && !mhas (nI l) (nI k)) ∧ (mhas (nI l) (nI k) = true → mhas (nI f) (nI k) = true) := by decide +kernel
  exact this f hf l hl h2 k hk
theorem mw_add {f l nb : Nat} {w : Fn} (hf : f < 64) (hl : l < 64) (h : nI l &&& (nI f ^^^ -1) = 0) : ∀ (m k : Nat) (a b c : Int32), k + m ≤ 6 → a + b = c → iter (mwStep w (nI (f &&& (63 ^^^ l)))) m k a + iter (mwStep w (nI l)) m k b = iter (mwStep w (nI f)) m k c
  | 0, _, _, _, _, _, e => e
  | m + 1, k, a, b, c, hk, e => by
    show iter (mwStep w (nI (f &&& (63 ^^^ l)))) m (k + 1) (a + (if mhas (nI (f &&& (63 ^^^ l))) (nI k) then w k else 0)) + iter (mwStep w (nI l)) m (k + 1) (b + (if mhas (nI l) (nI k) then w k else 0)) = iter (mwStep w (nI f)) m (k + 1) (c + (if mhas (nI f) (nI k) then w k else 0))
    refine mw_add (nb := nb) hf hl h m (k + 1) _ _ _ (by omega) ?_
    obtain ⟨d1, d2⟩ := dif_bit hf hl (show k < 6 by omega) h
    rw [d1]
    cases q1 : mhas (nI l) (nI k)
    · cases q2 : mhas (nI f) (nI k)
      · show a + 0 + (b + 0) = c + 0
        rw [Int32.add_zero, Int32.add_zero, Int32.add_zero, e]
      · show a + w k + (b + 0) = c + w k
        rw [Int32.add_zero, Int32.add_assoc, Int32.add_comm (w k) b, ← Int32.add_assoc, e]
    · rw [d2 q1]
      show a + 0 + (b + w k) = c + w k
      rw [Int32.add_zero, ← Int32.add_assoc, e]
theorem msz_i {v : Int32} (h1 : -1000000 ≤ v.toInt) (h2 : v.toInt ≤ 1000000) : (msz v).toInt = if v.toInt < 0 then -v.toInt else v.toInt := by
  have x0 : (0 : Int32).toInt = 0 := rfl
  unfold msz
  by_cases c : v < 0
  · rw [if_pos c, if_pos (by have := Int32.lt_iff_toInt_lt.mp c; omega), tI_neg h1 h2]
  · rw [if_neg c, if_neg (fun q => c (Int32.lt_iff_toInt_lt.mpr (by omega)))]
theorem tI_two {v : Int32} (h1 : -1000000 ≤ v.toInt) (h2 : v.toInt ≤ 1000000) : (2 * v).toInt = 2 * v.toInt := by
  rw [Int32.toInt_mul, show (2 : Int32).toInt = 2 from rfl]
  exact Int.bmod_eq_of_le (by omega) (by omega)
theorem mw_pos {nb : Nat} {w : Fn} (hnb : nb ≤ 6) (hw : ∀ k, k < nb → jin (w k) 1 60 = true) (s : Int32) : 0 ≤ (mwI w nb s).toInt ∧ (mwI w nb s).toInt ≤ 360 := by
  have x0 : (0 : Int32).toInt = 0 := rfl
  have x1 : (1 : Int32).toInt = 1 := rfl
  have x60 : (60 : Int32).toInt = 60 := rfl
  have z := mw_b hnb (lo := 0) (hi := 60) (by decide) (by decide) (by decide) (by decide) (fun k hk => jin_of (v := w k) (lo := 0) (hi := 60) (by have := jin_i (hw k hk); omega) (by have := jin_i (hw k hk); omega)) s nb 0 0 (by omega) (by decide) (by decide)
  rw [x0, x60] at z
  unfold mwI
  omega
theorem un_eq {f l nb : Nat} {w : Fn} (hnb : nb ≤ 6) (hw : ∀ k, k < nb → P.2.2.2.2.2.2.2.2.2.2 k = w k ∧ jin (w k) 1 60 = true) (hf : f < 2 ^ nb) (hl : l < 2 ^ nb) (h : nI l &&& (nI f ^^^ -1) = 0) : unI P (wyI (nI f) (nI l)) = mcyP w nb (nI f) l := by
  have hf6 := pow_le64 hnb hf
  have hl6 := pow_le64 hnb hl
  obtain ⟨d1, d2, _⟩ := wy_dec hf6 hl6
  have hd : (f &&& (63 ^^^ l)) < 2 ^ nb := by
    have := @Nat.and_le_left f (63 ^^^ l)
    omega
  have ea := mw_add (nb := nb) (w := w) hf6 hl6 h nb 0 0 0 0 (by omega) (by decide)
  have b1 := mw_pos hnb (fun k hk => (hw k hk).2) (nI (f &&& (63 ^^^ l)))
  have b2 := mw_pos hnb (fun k hk => (hw k hk).2) (nI l)
  have b3 := mw_pos hnb (fun k hk => (hw k hk).2) (nI f)
  unfold unI mcyP
  rw [d1, d2, (dif_and hf6 hl6).1, sum_eq hnb (fun k hk => (hw k hk).1) hl, sum_eq hnb (fun k hk => (hw k hk).1) hd, ia_sz]
  have ea : mwI w nb (nI (f &&& (63 ^^^ l))) + mwI w nb (nI l) = mwI w nb (nI f) := ea
  have e1 := tI_add (x := mwI w nb (nI (f &&& (63 ^^^ l)))) (y := mwI w nb (nI l)) (by omega) (by omega)
  rw [ea] at e1
  have e2 := tI_two (v := mwI w nb (nI l)) (by omega) (by omega)
  have e3 := tI_sub (x := mwI w nb (nI f)) (y := 2 * mwI w nb (nI l)) (by omega) (by omega)
  have e4 := tI_sub (x := mwI w nb (nI l)) (y := mwI w nb (nI (f &&& (63 ^^^ l)))) (by omega) (by omega)
  apply Int32.toInt_inj.mp
  rw [msz_i (by omega) (by omega), msz_i (by omega) (by omega)]
  split <;> split <;> omega
def RC (nb : Nat) (w : Fn) (a : Int32) (b : Int32 × Int32 × Int32) : Prop := (a = -9 ∧ b = (-9, -9, 0)) ∨ ∃ f l : Nat, f < 2 ^ nb ∧ l < 2 ^ nb ∧ nI l &&& (nI f ^^^ -1) = 0 ∧ a = wyI (nI f) (nI l) ∧ b = (nI f, nI l, mcyP w nb (nI f) l)
theorem bw_step {nb f k : Nat} {w : Fn} {a : Int32} {b : Int32 × Int32 × Int32} {x : Int32} (hnb : nb ≤ 6) (hw : ∀ k, k < nb → P.2.2.2.2.2.2.2.2.2.2 k = w k ∧ jin (w k) 1 60 = true) (hf : f < 2 ^ nb) (hk : k < 2 ^ nb) (hx : ¬ mwI w nb (nI f) < x) (h : RC nb w a b) : RC nb w (bwStep P (nI f) k a) (mcyStep w nb x (nI f) k b) := by
  have hf6 := pow_le64 hnb hf
  have hk6 := pow_le64 hnb hk
  unfold bwStep mcyStep
  by_cases c1 : nI k &&& (nI f ^^^ -1) = 0
  · rw [if_pos c1, if_pos c1, bc_bits hk6]
    by_cases c2 : mbits (nI k) = 2
    · rw [if_pos c2, if_pos c2, if_neg hx]
      have hnew : RC nb w (wyI (nI f) (nI k)) (nI f, nI k, mcyP w nb (nI f) k) := Or.inr ⟨f, k, hf, hk, c1, rfl, rfl⟩
      rcases h with ⟨h1, h2⟩ | ⟨f2, l2, hf2, hl2, i2, h1, h2⟩
      · rw [h1, h2, if_pos rfl]
        unfold mcyB
        rw [if_pos (show ((-9 : Int32), (-9 : Int32), (0 : Int32)).1 < 0 by decide)]
        exact hnew
      · have hf26 := pow_le64 hnb hf2
        have hl26 := pow_le64 hnb hl2
        have hold : RC nb w (wyI (nI f2) (nI l2)) (nI f2, nI l2, mcyP w nb (nI f2) l2) := Or.inr ⟨f2, l2, hf2, hl2, i2, rfl, rfl⟩
        rw [h1, h2, if_neg (wy_dec hf26 hl26).2.2]
        unfold mcyB ibI
        rw [un_eq hnb hw hf hk c1, un_eq hnb hw hf2 hl2 i2, (wy_dec hf6 hk6).1, (wy_dec hf26 hl26).1, sum_eq hnb (fun k hk => (hw k hk).1) hf, sum_eq hnb (fun k hk => (hw k hk).1) hf2]
        show RC nb w (if (if mcyP w nb (nI f) k = mcyP w nb (nI f2) l2 then decide (¬ mwI w nb (nI f2) ≤ mwI w nb (nI f)) else decide (¬ mcyP w nb (nI f2) l2 ≤ mcyP w nb (nI f) k)) = true then wyI (nI f) (nI k) else wyI (nI f2) (nI l2)) (if nI f2 < 0 then (nI f, nI k, mcyP w nb (nI f) k) else if mcyP w nb (nI f) k < mcyP w nb (nI f2) l2 then (nI f, nI k, mcyP w nb (nI f) k) else if mcyP w nb (nI f) k = mcyP w nb (nI f2) l2 then (if mwI w nb (nI f2) ≤ mwI w nb (nI f) then (nI f2, nI l2, mcyP w nb (nI f2) l2) else (nI f, nI k, mcyP w nb (nI f) k)) else (nI f2, nI l2, mcyP w nb (nI f2) l2))
        rw [if_neg (show ¬ nI f2 < 0 from nI_pos (by omega))]
        generalize mcyP w nb (nI f) k = pn at hnew ⊢
        generalize mcyP w nb (nI f2) l2 = po at hold ⊢
        by_cases c3 : pn = po
        · rw [if_pos c3, if_pos c3, if_neg (fun q => absurd (Int32.lt_iff_toInt_lt.mp q) (by rw [c3]; omega))]
          by_cases c4 : mwI w nb (nI f2) ≤ mwI w nb (nI f)
          · rw [if_pos c4, if_neg (fun q => (of_decide_eq_true q) c4)]
            exact hold
          · rw [if_neg c4, if_pos (decide_eq_true c4)]
            exact hnew
        · rw [if_neg c3, if_neg c3]
          by_cases c4 : pn < po
          · have c5 : ¬ po ≤ pn := fun q => absurd (Int32.le_iff_toInt_le.mp q) (by have := Int32.lt_iff_toInt_lt.mp c4; omega)
            rw [if_pos c4, if_pos (decide_eq_true c5)]
            exact hnew
          · have c6 : ¬ pn.toInt < po.toInt := fun q => c4 (Int32.lt_iff_toInt_lt.mpr q)
            have c5 : po ≤ pn := Int32.le_iff_toInt_le.mpr (by omega)
            rw [if_neg c4, if_neg (fun q => (of_decide_eq_true q) c5)]
            exact hold
    · rw [if_neg c2, if_neg c2]
      exact h
  · rw [if_neg c1, if_neg c1]
    exact h
theorem bw_iter {nb f : Nat} {w : Fn} {x : Int32} (hnb : nb ≤ 6) (hw : ∀ k, k < nb → P.2.2.2.2.2.2.2.2.2.2 k = w k ∧ jin (w k) 1 60 = true) (hf : f < 2 ^ nb) (hx : ¬ mwI w nb (nI f) < x) : ∀ (m k : Nat) (a : Int32) (b : Int32 × Int32 × Int32), k + m ≤ f → RC nb w a b → RC nb w (iter (bwStep P (nI f)) m k a) (iter (mcyStep w nb x (nI f)) m k b)
  | 0, _, _, _, _, h => h
  | m + 1, k, a, b, e, h => bw_iter hnb hw hf hx m (k + 1) _ _ (by omega) (bw_step hnb hw hf (by omega) hx h)
theorem be_iter {nb : Nat} {w : Fn} {x : Int32} (hnb : nb ≤ 6) (hw : ∀ k, k < nb → P.2.2.2.2.2.2.2.2.2.2 k = w k ∧ jin (w k) 1 60 = true) : ∀ (m k : Nat) (a : Int32) (b : Int32 × Int32 × Int32), k + m = 2 ^ nb → RC nb w a b → RC nb w (iter (beStep P x) m k a) (iter (mcoStep w nb x) m k b)
  | 0, _, _, _, _, h => h
  | m + 1, k, a, b, e, h => by
    have hk : k < 2 ^ nb := by omega
    refine be_iter hnb hw m (k + 1) (beStep P x k a) (mcoStep w nb x k b) (by omega) ?_
    unfold beStep mcoStep
    rw [bc_bits (pow_le64 hnb hk), sum_eq hnb (fun k hk => (hw k hk).1) hk]
    by_cases c1 : mbits (nI k) = 4
    · rw [if_pos c1, if_pos c1]
      by_cases c2 : mwI w nb (nI k) < x
      · rw [if_pos c2, iter_id k 0 b (fun i b2 _ _ => by unfold mcyStep; rw [if_pos c2, ite_self, ite_self])]
        exact h
      · rw [if_neg c2]
        exact bw_iter hnb hw hk c2 k 0 a b (by omega) h
    · rw [if_neg c1, if_neg c1]
      exact h
theorem ca_ans {nb : Nat} {w : Fn} {x c : Int32} (hnb : nb ≤ 6) (hw : ∀ k, k < nb → P.2.2.2.2.2.2.2.2.2.2 k = w k ∧ jin (w k) 1 60 = true) : (if bestI P nb x = -9 then (-9 : Int32) else if c = 0 then bestI P nb x >>> (6 &&& 31) else if c = 1 then bestI P nb x &&& allI 6 else unI P (bestI P nb x)) = mcyI w nb x c := by
  have h := be_iter (x := x) hnb hw (2 ^ nb) 0 (-9) (-9, -9, 0) (by omega) (Or.inl ⟨rfl, rfl⟩)
  unfold mcyI
  have h : RC nb w (bestI P nb x) (mcF w nb x) := h
  rcases h with ⟨h1, h2⟩ | ⟨f2, l2, hf2, hl2, i2, h1, h2⟩
  · rw [h1, h2, if_pos rfl, if_pos (show ((-9 : Int32), (-9 : Int32), (0 : Int32)).1 < 0 by decide)]
  · have d := wy_dec (pow_le64 hnb hf2) (pow_le64 hnb hl2)
    rw [h1, h2, if_neg d.2.2, if_neg (show ¬ (nI f2, nI l2, mcyP w nb (nI f2) l2).1 < 0 from nI_pos (by have := pow_le64 hnb hf2; omega)), d.1, d.2.1, un_eq hnb hw hf2 hl2 i2]
set_option maxRecDepth 20000 in
set_option maxHeartbeats 200000 in
theorem p_carry {x c : Int32} (hR : RelB lt lc P S kk nx ring im kept tb tr tc ts de we da bo be sg pi ru st wa kn mi ik tm to mr tx tn) : Pair g scr mX6_carry mX7_carry [.int x, .int c] (W2 (W1 scr [] lt lc rd sw P D S kk nx ring bu im kept tb tr tc ts) de we da bo be sg pi ru st wa kn mi ik tm to mr tx tn cu sa tk nu wr it sd swt sdd sbx sfl sdi sb sst sp sr nw od bs) := by
  have hR0 := hR
  obtain ⟨n, ne, nb, nt, L, q, j, hN, hP, hS, hH, hI, hT, hL, ht⟩ := hR
  have hw := hP.2.2.2.2.2.2.2.1
  by_cases h1 : jin x 1 240 = true
  · by_cases h2 : jin c 0 2 = true
    · have hf : (jin x 1 240 && jin c 0 2) = false → False := fun z => by rw [h1, h2] at z; cases z
      exact pairI (show ∀ tl : List AC, CD g 20 mX6_carry [.ref 1, .int x, .int c] (W1 scr tl lt lc rd sw P D S kk nx ring bu im kept tb tr tc ts) (some (.int (mcyI sg nb x c))) (W1 scr tl lt lc rd sw P D S kk nx ring bu im kept tb tr tc ts) from fun tl => C.deeper (by decide) (x_carry hP.2.2.1.1 hN.2.2.1 (fun z => (hf z).elim) (fun _ _ => by rw [ca_ans hN.2.2.1 hw]; exact ⟨rfl, rfl⟩))) (show ∀ pre : List AC, pre.length = 129 → CD g 20 mX7_carry [.ref 129, .int x, .int c] (W2 pre de we da bo be sg pi ru st wa kn mi ik tm to mr tx tn cu sa tk nu wr it sd swt sdd sbx sfl sdi sb sst sp sr nw od bs) (some (.int (mcyI sg nb x c))) (W2 pre de we da bo be sg pi ru st wa kn mi ik tm to mr tx tn cu sa tk nu wr it sd swt sdd sbx sfl sdi sb sst sp sr nw od bs) from fun pre hp => C.deeper (by decide) (m_carry hp hP.2.2.1.2 hN.2.2.1 (fun z => (hf z).elim) (fun _ _ => ⟨rfl, rfl⟩))) (show RelB lt lc P S kk nx ring im kept tb tr tc ts de we da bo be sg pi ru st wa kn mi ik tm to mr tx tn from hR0)
    · exact pairI (show ∀ tl : List AC, CD g 20 mX6_carry [.ref 1, .int x, .int c] (W1 scr tl lt lc rd sw P D S kk nx ring bu im kept tb tr tc ts) (some (.int (-1))) (W1 scr tl lt lc rd sw P D S kk nx ring bu im kept tb tr tc ts) from fun tl => C.deeper (by decide) (x_carry hP.2.2.1.1 hN.2.2.1 (fun _ => ⟨rfl, rfl⟩) (fun _ z => absurd z h2))) (show ∀ pre : List AC, pre.length = 129 → CD g 20 mX7_carry [.ref 129, .int x, .int c] (W2 pre de we da bo be sg pi ru st wa kn mi ik tm to mr tx tn cu sa tk nu wr it sd swt sdd sbx sfl sdi sb sst sp sr nw od bs) (some (.int (-1))) (W2 pre de we da bo be sg pi ru st wa kn mi ik tm to mr tx tn cu sa tk nu wr it sd swt sdd sbx sfl sdi sb sst sp sr nw od bs) from fun pre hp => C.deeper (by decide) (m_carry hp hP.2.2.1.2 hN.2.2.1 (fun _ => ⟨rfl, rfl⟩) (fun _ z => absurd z h2))) (show RelB lt lc P S kk nx ring im kept tb tr tc ts de we da bo be sg pi ru st wa kn mi ik tm to mr tx tn from hR0)
  · exact pairI (show ∀ tl : List AC, CD g 20 mX6_carry [.ref 1, .int x, .int c] (W1 scr tl lt lc rd sw P D S kk nx ring bu im kept tb tr tc ts) (some (.int (-1))) (W1 scr tl lt lc rd sw P D S kk nx ring bu im kept tb tr tc ts) from fun tl => C.deeper (by decide) (x_carry hP.2.2.1.1 hN.2.2.1 (fun _ => ⟨rfl, rfl⟩) (fun z => absurd z h1))) (show ∀ pre : List AC, pre.length = 129 → CD g 20 mX7_carry [.ref 129, .int x, .int c] (W2 pre de we da bo be sg pi ru st wa kn mi ik tm to mr tx tn cu sa tk nu wr it sd swt sdd sbx sfl sdi sb sst sp sr nw od bs) (some (.int (-1))) (W2 pre de we da bo be sg pi ru st wa kn mi ik tm to mr tx tn cu sa tk nu wr it sd swt sdd sbx sfl sdi sb sst sp sr nw od bs) from fun pre hp => C.deeper (by decide) (m_carry hp hP.2.2.1.2 hN.2.2.1 (fun _ => ⟨rfl, rfl⟩) (fun z => absurd z h1))) (show RelB lt lc P S kk nx ring im kept tb tr tc ts de we da bo be sg pi ru st wa kn mi ik tm to mr tx tn from hR0)
def tN (x nb k : Nat) : Nat := x ^ popN k * (10 - x) ^ (nb - popN k)
def fsN (x nb : Nat) : Nat → Nat → Nat
  | 0, _ => 0
  | m + 1, k => tN x nb k + fsN x nb m (k + 1)
theorem it_num {x nb k : Nat} (hx : x ≤ 10) (hnb : nb ≤ 6) (hk : k < 2 ^ nb) : itI (nI x) nb (nI k) = nI (tN x nb k) ∧ powI (nI x) (popN k) 0 1 * powI (10 - nI x) (nb - popN k) 0 1 = nI (tN x nb k) := by
  have : ∀ x, x < 11 → ∀ nb, nb < 7 → ∀ k, k < 2 ^ nb → itI (nI x) nb (nI k) = nI (tN x nb k) ∧ powI (nI x) (popN k) 0 1 * powI (10 - nI x) (nb - popN k) 0 1 = nI (tN x nb k) := by decide +kernel
  exact this x (by omega) nb (by omega) k hk
theorem fs_10 {x nb : Nat} (hx : x ≤ 10) (hnb : nb ≤ 6) : fsN x nb (2 ^ nb) 0 = 10 ^ nb ∧ powI 10 nb 0 1 = nI (10 ^ nb) ∧ 1 ≤ 10 ^ nb ∧ 10 ^ nb ≤ 1000000 := by
  have : ∀ x, x < 11 → ∀ nb, nb < 7 → fsN x nb (2 ^ nb) 0 = 10 ^ nb ∧ powI 10 nb 0 1 = nI (10 ^ nb) ∧ 1 ≤ 10 ^ nb ∧ 10 ^ nb ≤ 1000000 := by decide +kernel
  exact this x (by omega) nb (by omega)
theorem pl_num {x nb : Nat} {kk : Int32} (hx : x ≤ 10) (hnb : nb ≤ 6) : ∀ (m k a : Nat), k + m = 2 ^ nb → ∃ b : Nat, b ≤ a + fsN x nb m k ∧ iter (plStep (nI x) kk nb) m k (nI a) = nI b ∧ iter (abStep (nI x) kk nb) m k (nI a) = nI b
  | 0, _, a, _ => ⟨a, Nat.le_refl _, rfl, rfl⟩
  | m + 1, k, a, e => by
    have hk : k < 2 ^ nb := by omega
    have hk6 := pow_le64 hnb hk
    obtain ⟨i1, i2⟩ := it_num hx hnb hk
    show ∃ b : Nat, b ≤ a + (tN x nb k + fsN x nb m (k + 1)) ∧ iter (plStep (nI x) kk nb) m (k + 1) (if kk < nI (popN k) then nI a else nI a + powI (nI x) (popN k) 0 1 * powI (10 - nI x) (nb - popN k) 0 1) = nI b ∧ iter (abStep (nI x) kk nb) m (k + 1) (nI a + (if kk < mbits (nI k) then 0 else itI (nI x) nb (nI k))) = nI b
    rw [← bc_bits hk6, bcI_nI hk6, i1, i2]
    by_cases c : kk < nI (popN k)
    · rw [if_pos c, if_pos c, Int32.add_zero]
      obtain ⟨b, h1, h2, h3⟩ := pl_num hx hnb m (k + 1) a (by omega)
      exact ⟨b, by omega, h2, h3⟩
    · rw [if_neg c, if_neg c, nIa]
      obtain ⟨b, h1, h2, h3⟩ := pl_num hx hnb m (k + 1) (a + tN x nb k) (by omega)
      exact ⟨b, by omega, h2, h3⟩
theorem rem_nI {y z : Nat} (hy : y < 2 ^ 31) (hz : z < 2 ^ 31) (h : 0 < z) : nI y - nI y / nI z * nI z = nI (y % z) := by
  apply Int32.toInt_inj.mp
  have hm : y % z < 2 ^ 31 := by have := Nat.mod_lt y h; omega
  rw [irem_toInt (by rw [nI_tI hz]; omega), nI_tI hy, nI_tI hz, nI_tI hm]
  rw [← Int.ofNat_tmod]
theorem cd_num : ∀ (j m l s : Nat), s < 2 ^ j → 2 * j + 1 ≤ m → l < 2 ^ 31 → s < 2 ^ 31 → cdL m (nI l) (nI s) = nI (Nat.gcd l s) := by
  intro j
  induction j with
  | zero =>
    intro m l s h1 h2 _ _
    obtain ⟨m, rfl⟩ : ∃ m2, m = m2 + 1 := ⟨m - 1, by omega⟩
    have e0 : s = 0 := by omega
    subst e0
    show (if nI 0 ≤ 0 then nI l else _) = nI (Nat.gcd l 0)
    rw [if_pos (show nI 0 ≤ 0 by decide), Nat.gcd_zero_right]
  | succ j ih =>
    intro m l s h1 h2 hl hs
    obtain ⟨m, rfl⟩ : ∃ m2, m = m2 + 2 := ⟨m - 2, by omega⟩
    by_cases e0 : s = 0
    · subst e0
      show (if nI 0 ≤ 0 then nI l else _) = nI (Nat.gcd l 0)
      rw [if_pos (show nI 0 ≤ 0 by decide), Nat.gcd_zero_right]
    · have hsp : 0 < s := by omega
      have hr := Nat.mod_lt l hsp
      show (if nI s ≤ 0 then nI l else cdL (m + 1) (nI s) (nI l - nI l / nI s * nI s)) = _
      rw [if_neg (show ¬ nI s ≤ 0 from fun q => absurd ((le_nI (b := 0) hs (by omega)).mp q) (by omega)), rem_nI hl hs hsp, Nat.gcd_comm l s, Nat.gcd_rec s l]
      by_cases e1 : l % s = 0
      · rw [e1]
        show (if nI 0 ≤ 0 then nI s else _) = nI (Nat.gcd 0 s)
        rw [if_pos (show nI 0 ≤ 0 by decide), Nat.gcd_zero_left]
      · have hrp : 0 < l % s := by omega
        show (if nI (l % s) ≤ 0 then nI s else cdL m (nI (l % s)) (nI s - nI s / nI (l % s) * nI (l % s))) = _
        rw [if_neg (show ¬ nI (l % s) ≤ 0 from fun q => absurd ((le_nI (b := 0) (by omega) (by omega)).mp q) (by omega)), rem_nI hs (by omega) hrp]
        generalize l % s = r at hr hrp ⊢
        have q1 := Nat.mod_lt s hrp
        have q2 : 2 * (s % r) < s := by
          have q3 := Nat.div_add_mod s r
          have q4 : 1 ≤ s / r := Nat.div_pos (by omega) hrp
          have q5 : r ≤ r * (s / r) := Nat.le_mul_of_pos_right r q4
          omega
        have p2 : 2 ^ (j + 1) = 2 ^ j * 2 := Nat.pow_succ 2 j
        rw [ih m r (s % r) (by omega) (by omega) (by omega) (by omega), Nat.gcd_rec r s]
        exact congrArg nI (Nat.gcd_comm _ _)
theorem gc_cd : ∀ (m : Nat) (y z : Int32), gcL m y z = cdL m y z
  | 0, _, _ => rfl
  | m + 1, y, z => by
    show (if z ≤ 0 then y else gcL m z (y - y / z * z)) = (if z ≤ 0 then y else cdL m z (y - y / z * z))
    rw [gc_cd m]
theorem od_eq {x nb : Nat} {kk c : Int32} (hx : x ≤ 10) (hnb : nb ≤ 6) : odI (nI x) kk c nb = modI (nI x) kk c nb := by
  obtain ⟨f1, f2, f3, f4⟩ := fs_10 hx hnb
  obtain ⟨b, h1, h2, h3⟩ := pl_num (kk := kk) hx hnb (2 ^ nb) 0 0 (by omega)
  rw [f1] at h1
  have e1 : plI (nI x) kk nb = nI b := h2
  have e2 : abI (nI x) kk nb = nI b := h3
  have hg : 0 < Nat.gcd (10 ^ nb) b := Nat.gcd_pos_of_pos_left b (by omega)
  have hg2 : Nat.gcd (10 ^ nb) b ≤ 10 ^ nb := Nat.gcd_le_left b (by omega)
  unfold odI modI beI
  rw [e1, e2, f2, gc_cd, cd_num 20 64 _ _ (by omega) (by omega) (by omega) (by omega), cd_num 20 1000001 _ _ (by omega) (by omega) (by omega) (by omega), Nat.gcd_comm b]
  generalize Nat.gcd (10 ^ nb) b = gd at hg hg2
  have e3 : imax 1 (nI gd) = nI gd := by
    unfold imax
    by_cases c : (1 : Int32) < nI gd
    · rw [if_pos c]
    · rw [if_neg c]
      apply Int32.toInt_inj.mp
      have c2 : ¬ (1 : Int32).toInt < (nI gd).toInt := fun q => c (Int32.lt_iff_toInt_lt.mpr q)
      have x1 : (1 : Int32).toInt = 1 := rfl
      rw [x1, nI_tI (by omega)] at c2
      rw [x1, nI_tI (by omega)]
      omega
  rw [e3]
set_option maxRecDepth 20000 in
set_option maxHeartbeats 200000 in
theorem p_odds {x k c : Int32} (hR : RelB lt lc P S kk nx ring im kept tb tr tc ts de we da bo be sg pi ru st wa kn mi ik tm to mr tx tn) : Pair g scr mX6_odds mX7_odds [.int x, .int k, .int c] (W2 (W1 scr [] lt lc rd sw P D S kk nx ring bu im kept tb tr tc ts) de we da bo be sg pi ru st wa kn mi ik tm to mr tx tn cu sa tk nu wr it sd swt sdd sbx sfl sdi sb sst sp sr nw od bs) := by
  have hR0 := hR
  obtain ⟨n, ne, nb, nt, L, q, j, hN, hP, hS, hH, hI, hT, hL, ht⟩ := hR
  by_cases hh : (jin x 0 10 && jin k 0 6 && jin c 0 1) = true
  · have hf : (jin x 0 10 && jin k 0 6 && jin c 0 1) = false → False := fun z => by rw [hh] at z; cases z
    have h1 : jin x 0 10 = true := ((Bool.and_eq_true _ _).mp ((Bool.and_eq_true _ _).mp hh).1).1
    obtain ⟨y, hy, ey⟩ := jin_nat (n := 10) (by decide) h1
    have ea : odI x k c nb = modI x k c nb := by rw [ey]; exact od_eq hy hN.2.2.1
    exact pairI (show ∀ tl : List AC, CD g 20 mX6_odds [.ref 1, .int x, .int k, .int c] (W1 scr tl lt lc rd sw P D S kk nx ring bu im kept tb tr tc ts) (some (.int (modI x k c nb))) (W1 scr tl lt lc rd sw P D S kk nx ring bu im kept tb tr tc ts) from fun tl => C.deeper (by decide) (x_odds hP.2.2.1.1 hN.2.2.1 (fun z => (hf z).elim) (fun _ _ _ => by rw [ea]; exact ⟨rfl, rfl⟩))) (show ∀ pre : List AC, pre.length = 129 → CD g 20 mX7_odds [.ref 129, .int x, .int k, .int c] (W2 pre de we da bo be sg pi ru st wa kn mi ik tm to mr tx tn cu sa tk nu wr it sd swt sdd sbx sfl sdi sb sst sp sr nw od bs) (some (.int (modI x k c nb))) (W2 pre de we da bo be sg pi ru st wa kn mi ik tm to mr tx tn cu sa tk nu wr it sd swt sdd sbx sfl sdi sb sst sp sr nw od bs) from fun pre hp => C.deeper (by decide) (m_odds hp hP.2.2.1.2 hN.2.2.1 (fun z => (hf z).elim) (fun _ _ _ => ⟨rfl, rfl⟩))) (show RelB lt lc P S kk nx ring im kept tb tr tc ts de we da bo be sg pi ru st wa kn mi ik tm to mr tx tn from hR0)
  · have hn : jin x 0 10 = true → jin k 0 6 = true → jin c 0 1 = true → False := fun a b d => hh (by rw [a, b, d]; rfl)
    exact pairI (show ∀ tl : List AC, CD g 20 mX6_odds [.ref 1, .int x, .int k, .int c] (W1 scr tl lt lc rd sw P D S kk nx ring bu im kept tb tr tc ts) (some (.int (-1))) (W1 scr tl lt lc rd sw P D S kk nx ring bu im kept tb tr tc ts) from fun tl => C.deeper (by decide) (x_odds hP.2.2.1.1 hN.2.2.1 (fun _ => ⟨rfl, rfl⟩) (fun a b d => (hn a b d).elim))) (show ∀ pre : List AC, pre.length = 129 → CD g 20 mX7_odds [.ref 129, .int x, .int k, .int c] (W2 pre de we da bo be sg pi ru st wa kn mi ik tm to mr tx tn cu sa tk nu wr it sd swt sdd sbx sfl sdi sb sst sp sr nw od bs) (some (.int (-1))) (W2 pre de we da bo be sg pi ru st wa kn mi ik tm to mr tx tn cu sa tk nu wr it sd swt sdd sbx sfl sdi sb sst sp sr nw od bs) from fun pre hp => C.deeper (by decide) (m_odds hp hP.2.2.1.2 hN.2.2.1 (fun _ => ⟨rfl, rfl⟩) (fun a b d => (hn a b d).elim))) (show RelB lt lc P S kk nx ring im kept tb tr tc ts de we da bo be sg pi ru st wa kn mi ik tm to mr tx tn from hR0)
end

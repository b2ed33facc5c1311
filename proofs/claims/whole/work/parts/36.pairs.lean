/-! thumbs, oils, year answer alike -/
section
variable {g : GG} {scr : AC} {lt : Fn} {lc : Int32} {rd : RdV} {sw : Bool} {P : ParV} {D : ParV} {S : ScV} {kk : Int32} {nx : Int32} {ring : Nat → ScV} {bu : Fn} {im : Nat → ScV} {kept : Int32} {tb : Fn} {tr : Fn} {tc : Int32} {ts : Int64} {de : Int32} {we : Fn} {da : Int32} {bo : Fn} {be : Int32} {sg : Fn} {pi : Int32} {ru : Int32} {st : Fn} {wa : Fn} {kn : Int32} {mi : Fn} {ik : Nat → Bool} {tm : Int32} {to : Fn} {mr : Int64} {tx : Fn} {tn : Int32} {cu : Int32} {sa : Int32} {tk : Int32} {nu : Int32} {wr : Bool} {it : Int32} {sd : Int32} {swt : Fn} {sdd : Int32} {sbx : Fn} {sfl : Fn} {sdi : Fn} {sb : Int32} {sst : Fn} {sp : Int32} {sr : Int32} {nw : Fn} {od : Fn} {bs : Fn}
theorem SR_1 {n ne : Nat} {c : Int32} (hn : n ≤ 6) (hS : SR n ne pi S st) (hc : jin c (-9) 9 = true) : SR n ne pi (S.1, c, S.2.2.1, S.2.2.2.1, S.2.2.2.2.1, S.2.2.2.2.2) (upd st 1 c) := by
  obtain ⟨⟨a, b, d⟩, e, r0, r1, r2⟩ := hS
  refine ⟨⟨a, rfl, d⟩, fun k hk => ?_, r0, hc, r2⟩
  unfold upd
  rw [if_neg (show ¬ 3 + k = 1 by omega), if_neg (show ¬ 9 + k = 1 by omega), if_neg (show ¬ 15 + k = 1 by omega)]
  exact e k hk
theorem SR_2 {n ne : Nat} {c : Int32} (hn : n ≤ 6) (hS : SR n ne pi S st) (hc : jin c 0 9 = true) : SR n ne pi (S.1, S.2.1, c, S.2.2.2.1, S.2.2.2.2.1, S.2.2.2.2.2) (upd st 2 c) := by
  obtain ⟨⟨a, b, d⟩, e, r0, r1, r2⟩ := hS
  refine ⟨⟨a, b, rfl⟩, fun k hk => ?_, r0, r1, hc⟩
  unfold upd
  rw [if_neg (show ¬ 3 + k = 2 by omega), if_neg (show ¬ 9 + k = 2 by omega), if_neg (show ¬ 15 + k = 2 by omega)]
  exact e k hk
set_option maxRecDepth 20000 in
set_option maxHeartbeats 200000 in
theorem p_thumbs {c : Int32} (hR : RelB lt lc P S kk nx ring im kept tb tr tc ts de we da bo be sg pi ru st wa kn mi ik tm to mr tx tn) : Pair g scr mX6_thumbs mX7_thumbs [.int c] (W2 (W1 scr [] lt lc rd sw P D S kk nx ring bu im kept tb tr tc ts) de we da bo be sg pi ru st wa kn mi ik tm to mr tx tn cu sa tk nu wr it sd swt sdd sbx sfl sdi sb sst sp sr nw od bs) := by
  have hR0 := hR
  obtain ⟨n, ne, nb, nt, L, q, j, hN, hP, hS, hH, hI, hT, hL, ht⟩ := hR
  by_cases h : jin c (-9) 9 = true
  · exact pairI (show ∀ tl : List AC, CD g 20 mX6_thumbs [.ref 1, .int c] (W1 scr tl lt lc rd sw P D S kk nx ring bu im kept tb tr tc ts) (some (.int (st 1))) (W1 scr tl lt lc rd sw P D (S.1, c, S.2.2.1, S.2.2.2.1, S.2.2.2.2.1, S.2.2.2.2.2) (nI (min (q + 1) 10)) (nI (nj j)) (updS ring j S) bu im kept tb tr tc ts) from fun tl => C.deeper (by decide) (x_thumbs hH.2.2.1 hN.2.2.2.2.2.2 hH.1 hN.2.2.2.2.2.1 (fun z => (no_f h z).elim) (fun _ => ⟨by rw [hS.1.2.1], rfl⟩))) (show ∀ pre : List AC, pre.length = 129 → CD g 20 mX7_thumbs [.ref 129, .int c] (W2 pre de we da bo be sg pi ru st wa kn mi ik tm to mr tx tn cu sa tk nu wr it sd swt sdd sbx sfl sdi sb sst sp sr nw od bs) (some (.int (st 1))) (W2 pre de we da bo be sg pi ru (upd st 1 c) (reW wa st q) (nI (min (q + 1) 10)) mi ik tm to mr tx tn cu sa tk nu wr it sd swt sdd sbx sfl sdi sb sst sp sr nw od bs) from fun pre hp => C.deeper (by decide) (m_thumbs hp hH.2.1 hN.2.2.2.2.2.1 (fun z => (no_f h z).elim) (fun _ => ⟨rfl, rfl⟩))) (show RelB lt lc P (S.1, c, S.2.2.1, S.2.2.2.1, S.2.2.2.2.1, S.2.2.2.2.2) (nI (min (q + 1) 10)) (nI (nj j)) (updS ring j S) im kept tb tr tc ts de we da bo be sg pi ru (upd st 1 c) (reW wa st q) (nI (min (q + 1) 10)) mi ik tm to mr tx tn from ⟨n, ne, nb, nt, L, min (q + 1) 10, nj j, NR_rem hN, hP, SR_1 hN.1 hS h, HR_rem hN.1 hN.2.2.2.2.2.1 hN.2.2.2.2.2.2 hH hS, hI, hT, hL, ht⟩)
  · exact pairI (show ∀ tl : List AC, CD g 20 mX6_thumbs [.ref 1, .int c] (W1 scr tl lt lc rd sw P D S kk nx ring bu im kept tb tr tc ts) (some (.int (-1000000))) (W1 scr tl lt lc rd sw P D S kk nx ring bu im kept tb tr tc ts) from fun tl => C.deeper (by decide) (x_thumbs hH.2.2.1 hN.2.2.2.2.2.2 hH.1 hN.2.2.2.2.2.1 (fun _ => ⟨rfl, rfl⟩) (fun z => absurd z h))) (show ∀ pre : List AC, pre.length = 129 → CD g 20 mX7_thumbs [.ref 129, .int c] (W2 pre de we da bo be sg pi ru st wa kn mi ik tm to mr tx tn cu sa tk nu wr it sd swt sdd sbx sfl sdi sb sst sp sr nw od bs) (some (.int (-1000000))) (W2 pre de we da bo be sg pi ru st wa kn mi ik tm to mr tx tn cu sa tk nu wr it sd swt sdd sbx sfl sdi sb sst sp sr nw od bs) from fun pre hp => C.deeper (by decide) (m_thumbs hp hH.2.1 hN.2.2.2.2.2.1 (fun _ => ⟨rfl, rfl⟩) (fun z => absurd z h))) (show RelB lt lc P S kk nx ring im kept tb tr tc ts de we da bo be sg pi ru st wa kn mi ik tm to mr tx tn from hR0)
set_option maxRecDepth 20000 in
set_option maxHeartbeats 200000 in
theorem p_oils {c : Int32} (hR : RelB lt lc P S kk nx ring im kept tb tr tc ts de we da bo be sg pi ru st wa kn mi ik tm to mr tx tn) : Pair g scr mX6_oils mX7_oils [.int c] (W2 (W1 scr [] lt lc rd sw P D S kk nx ring bu im kept tb tr tc ts) de we da bo be sg pi ru st wa kn mi ik tm to mr tx tn cu sa tk nu wr it sd swt sdd sbx sfl sdi sb sst sp sr nw od bs) := by
  have hR0 := hR
  obtain ⟨n, ne, nb, nt, L, q, j, hN, hP, hS, hH, hI, hT, hL, ht⟩ := hR
  by_cases h : jin c 0 9 = true
  · exact pairI (show ∀ tl : List AC, CD g 20 mX6_oils [.ref 1, .int c] (W1 scr tl lt lc rd sw P D S kk nx ring bu im kept tb tr tc ts) (some (.int (st 2))) (W1 scr tl lt lc rd sw P D (S.1, S.2.1, c, S.2.2.2.1, S.2.2.2.2.1, S.2.2.2.2.2) (nI (min (q + 1) 10)) (nI (nj j)) (updS ring j S) bu im kept tb tr tc ts) from fun tl => C.deeper (by decide) (x_oils hH.2.2.1 hN.2.2.2.2.2.2 hH.1 hN.2.2.2.2.2.1 (fun z => (no_f h z).elim) (fun _ => ⟨by rw [hS.1.2.2], rfl⟩))) (show ∀ pre : List AC, pre.length = 129 → CD g 20 mX7_oils [.ref 129, .int c] (W2 pre de we da bo be sg pi ru st wa kn mi ik tm to mr tx tn cu sa tk nu wr it sd swt sdd sbx sfl sdi sb sst sp sr nw od bs) (some (.int (st 2))) (W2 pre de we da bo be sg pi ru (upd st 2 c) (reW wa st q) (nI (min (q + 1) 10)) mi ik tm to mr tx tn cu sa tk nu wr it sd swt sdd sbx sfl sdi sb sst sp sr nw od bs) from fun pre hp => C.deeper (by decide) (m_oils hp hH.2.1 hN.2.2.2.2.2.1 (fun z => (no_f h z).elim) (fun _ => ⟨rfl, rfl⟩))) (show RelB lt lc P (S.1, S.2.1, c, S.2.2.2.1, S.2.2.2.2.1, S.2.2.2.2.2) (nI (min (q + 1) 10)) (nI (nj j)) (updS ring j S) im kept tb tr tc ts de we da bo be sg pi ru (upd st 2 c) (reW wa st q) (nI (min (q + 1) 10)) mi ik tm to mr tx tn from ⟨n, ne, nb, nt, L, min (q + 1) 10, nj j, NR_rem hN, hP, SR_2 hN.1 hS h, HR_rem hN.1 hN.2.2.2.2.2.1 hN.2.2.2.2.2.2 hH hS, hI, hT, hL, ht⟩)
  · exact pairI (show ∀ tl : List AC, CD g 20 mX6_oils [.ref 1, .int c] (W1 scr tl lt lc rd sw P D S kk nx ring bu im kept tb tr tc ts) (some (.int (-1))) (W1 scr tl lt lc rd sw P D S kk nx ring bu im kept tb tr tc ts) from fun tl => C.deeper (by decide) (x_oils hH.2.2.1 hN.2.2.2.2.2.2 hH.1 hN.2.2.2.2.2.1 (fun _ => ⟨rfl, rfl⟩) (fun z => absurd z h))) (show ∀ pre : List AC, pre.length = 129 → CD g 20 mX7_oils [.ref 129, .int c] (W2 pre de we da bo be sg pi ru st wa kn mi ik tm to mr tx tn cu sa tk nu wr it sd swt sdd sbx sfl sdi sb sst sp sr nw od bs) (some (.int (-1))) (W2 pre de we da bo be sg pi ru st wa kn mi ik tm to mr tx tn cu sa tk nu wr it sd swt sdd sbx sfl sdi sb sst sp sr nw od bs) from fun pre hp => C.deeper (by decide) (m_oils hp hH.2.1 hN.2.2.2.2.2.1 (fun _ => ⟨rfl, rfl⟩) (fun z => absurd z h))) (show RelB lt lc P S kk nx ring im kept tb tr tc ts de we da bo be sg pi ru st wa kn mi ik tm to mr tx tn from hR0)
theorem jin_nI {k m : Nat} (hm : m < 2 ^ 31) (h : k ≤ m) : jin (nI k) 0 (nI m) = true := by
  have h1 : ¬ nI k < 0 := nI_pos (by omega)
  have h2 : ¬ nI m < nI k := nI_nlt h (by omega)
  unfold jin
  rw [decide_eq_true h1, decide_eq_true h2]
  rfl
set_option maxRecDepth 20000 in
set_option maxHeartbeats 200000 in
theorem p_year  (hR : RelB lt lc P S kk nx ring im kept tb tr tc ts de we da bo be sg pi ru st wa kn mi ik tm to mr tx tn) : Pair g scr mX6_year mX7_year [] (W2 (W1 scr [] lt lc rd sw P D S kk nx ring bu im kept tb tr tc ts) de we da bo be sg pi ru st wa kn mi ik tm to mr tx tn cu sa tk nu wr it sd swt sdd sbx sfl sdi sb sst sp sr nw od bs) := by
  have hR0 := hR
  obtain ⟨n, ne, nb, nt, L, q, j, hN, hP, hS, hH, hI, hT, hL, ht⟩ := hR
  obtain ⟨k, hk, ek⟩ := jin_nat (n := 9) (by decide) hS.2.2.2.2
  have e3 : S.2.2.1 = nI k := by rw [hS.1.2.2, ek]
  by_cases h : k = 9
  · have z9 : st 2 = 9 := by rw [ek, h]; rfl
    have x9 : ¬ S.2.2.1 < 9 := by rw [e3, h]; decide
    exact pairI (show ∀ tl : List AC, CD g 20 mX6_year [.ref 1] (W1 scr tl lt lc rd sw P D S kk nx ring bu im kept tb tr tc ts) (some (.int (-2))) (W1 scr tl lt lc rd sw P D S kk nx ring bu im kept tb tr tc ts) from fun tl => C.deeper (by decide) (x_year hH.2.2.1 hN.2.2.2.2.2.2 hH.1 hN.2.2.2.2.2.1 (fun _ => ⟨rfl, rfl⟩) (fun z => absurd z x9))) (show ∀ pre : List AC, pre.length = 129 → CD g 20 mX7_year [.ref 129] (W2 pre de we da bo be sg pi ru st wa kn mi ik tm to mr tx tn cu sa tk nu wr it sd swt sdd sbx sfl sdi sb sst sp sr nw od bs) (some (.int (-2))) (W2 pre de we da bo be sg pi ru st wa kn mi ik tm to mr tx tn cu sa tk nu wr it sd swt sdd sbx sfl sdi sb sst sp sr nw od bs) from fun pre hp => C.deeper (by decide) (m_year hp hH.2.1 hN.2.2.2.2.2.1 (fun _ => ⟨rfl, rfl⟩) (fun z => absurd z9 z))) (show RelB lt lc P S kk nx ring im kept tb tr tc ts de we da bo be sg pi ru st wa kn mi ik tm to mr tx tn from hR0)
  · have x9 : S.2.2.1 < 9 := by rw [e3]; exact nI_lt (b := 9) (by omega) (by decide)
    have z9 : ¬ st 2 = 9 := fun z => h (nIi (a := k) (b := 9) (by omega) (by decide) (ek.symm.trans z))
    have j9 : jin (st 2 + 1) 0 9 = true := by rw [ek, nI_s1]; exact jin_nI (m := 9) (by decide) (by omega)
    exact pairI (show ∀ tl : List AC, CD g 20 mX6_year [.ref 1] (W1 scr tl lt lc rd sw P D S kk nx ring bu im kept tb tr tc ts) (some (.int (st 2 + 1))) (W1 scr tl lt lc rd sw P D (S.1, S.2.1, S.2.2.1 + 1, S.2.2.2.1, S.2.2.2.2.1, S.2.2.2.2.2) (nI (min (q + 1) 10)) (nI (nj j)) (updS ring j S) bu im kept tb tr tc ts) from fun tl => C.deeper (by decide) (x_year hH.2.2.1 hN.2.2.2.2.2.2 hH.1 hN.2.2.2.2.2.1 (fun z => absurd x9 z) (fun _ => ⟨by rw [hS.1.2.2], rfl⟩))) (show ∀ pre : List AC, pre.length = 129 → CD g 20 mX7_year [.ref 129] (W2 pre de we da bo be sg pi ru st wa kn mi ik tm to mr tx tn cu sa tk nu wr it sd swt sdd sbx sfl sdi sb sst sp sr nw od bs) (some (.int (st 2 + 1))) (W2 pre de we da bo be sg pi ru (upd st 2 (st 2 + 1)) (reW wa st q) (nI (min (q + 1) 10)) mi ik tm to mr tx tn cu sa tk nu wr it sd swt sdd sbx sfl sdi sb sst sp sr nw od bs) from fun pre hp => C.deeper (by decide) (m_year hp hH.2.1 hN.2.2.2.2.2.1 (fun z => absurd z z9) (fun _ => ⟨rfl, rfl⟩))) (show RelB lt lc P (S.1, S.2.1, S.2.2.1 + 1, S.2.2.2.1, S.2.2.2.2.1, S.2.2.2.2.2) (nI (min (q + 1) 10)) (nI (nj j)) (updS ring j S) im kept tb tr tc ts de we da bo be sg pi ru (upd st 2 (st 2 + 1)) (reW wa st q) (nI (min (q + 1) 10)) mi ik tm to mr tx tn from ⟨n, ne, nb, nt, L, min (q + 1) 10, nj j, NR_rem hN, hP, by rw [hS.1.2.2]; exact SR_2 hN.1 hS j9, HR_rem hN.1 hN.2.2.2.2.2.1 hN.2.2.2.2.2.2 hH hS, hI, hT, hL, ht⟩)
theorem SR_3 {n ne j : Nat} {c : Int32} (hn : n ≤ 6) (hj : j < n) (hS : SR n ne pi S st) (hc : jin c 0 9 = true) : SR n ne pi (S.1, S.2.1, S.2.2.1, upd S.2.2.2.1 j c, S.2.2.2.2.1, S.2.2.2.2.2) (upd st (3 + j) c) := by
  obtain ⟨⟨a, b, d⟩, e, r0, r1, r2⟩ := hS
  have u0 : upd st (3 + j) c 0 = st 0 := if_neg (by omega)
  have u1 : upd st (3 + j) c 1 = st 1 := if_neg (by omega)
  have u2 : upd st (3 + j) c 2 = st 2 := if_neg (by omega)
  refine ⟨⟨by rw [u0]; exact a, by rw [u1]; exact b, by rw [u2]; exact d⟩, fun k hk => ?_, by rw [u0]; exact r0, by rw [u1]; exact r1, by rw [u2]; exact r2⟩
  have u9 : upd st (3 + j) c (9 + k) = st (9 + k) := if_neg (by omega)
  have u15 : upd st (3 + j) c (15 + k) = st (15 + k) := if_neg (by omega)
  rw [u9, u15]
  by_cases q : k = j
  · subst q
    have v1 : upd S.2.2.2.1 k c k = c := if_pos rfl
    have v2 : upd st (3 + k) c (3 + k) = c := if_pos rfl
    exact ⟨by rw [v2]; exact v1, (e k hk).2.1, (e k hk).2.2.1, (e k hk).2.2.2.1, by rw [v2]; exact hc⟩
  · have v1 : upd S.2.2.2.1 j c k = S.2.2.2.1 k := if_neg q
    have v2 : upd st (3 + j) c (3 + k) = st (3 + k) := if_neg (by omega)
    exact ⟨by rw [v2, ← (e k hk).1]; exact v1, (e k hk).2.1, (e k hk).2.2.1, (e k hk).2.2.2.1, by rw [v2]; exact (e k hk).2.2.2.2⟩
set_option maxRecDepth 20000 in
set_option maxHeartbeats 200000 in
theorem p_adorns {i c : Int32} (hR : RelB lt lc P S kk nx ring im kept tb tr tc ts de we da bo be sg pi ru st wa kn mi ik tm to mr tx tn) : Pair g scr mX6_adorns mX7_adorns [.int i, .int c] (W2 (W1 scr [] lt lc rd sw P D S kk nx ring bu im kept tb tr tc ts) de we da bo be sg pi ru st wa kn mi ik tm to mr tx tn cu sa tk nu wr it sd swt sdd sbx sfl sdi sb sst sp sr nw od bs) := by
  have hR0 := hR
  obtain ⟨n, ne, nb, nt, L, q, j, hN, hP, hS, hH, hI, hT, hL, ht⟩ := hR
  by_cases h2 : jin c 0 9 = true
  · by_cases h : jlt i (nI n) = true
    · obtain ⟨k, hk, hi⟩ := jlt_nat (n := n) (by have := hN.1; omega) h
      have h6 := hN.1
      have hf : (jlt i P.2.2.1 && jin c 0 9) = false → False := fun z => by rw [jlt_c hP.2.1.1 h, h2] at z; cases z
      have hf2 : (jlt i da && jin c 0 9) = false → False := fun z => by rw [jlt_c hP.2.1.2 h, h2] at z; cases z
      exact pairI (show ∀ tl : List AC, CD g 20 mX6_adorns [.ref 1, .int i, .int c] (W1 scr tl lt lc rd sw P D S kk nx ring bu im kept tb tr tc ts) (some (.int (st (3 + k)))) (W1 scr tl lt lc rd sw P D (S.1, S.2.1, S.2.2.1, rPut 6 S.2.2.2.1 i c, S.2.2.2.2.1, S.2.2.2.2.2) (nI (min (q + 1) 10)) (nI (nj j)) (updS ring j S) bu im kept tb tr tc ts) from fun tl => C.deeper (by decide) (x_adorns hH.2.2.1 hN.2.2.2.2.2.2 hH.1 hN.2.2.2.2.2.1 (fun z => (hf z).elim) (fun _ _ => ⟨by rw [hi, flo_eq hN.1 hS hk], rfl⟩))) (show ∀ pre : List AC, pre.length = 129 → CD g 20 mX7_adorns [.ref 129, .int i, .int c] (W2 pre de we da bo be sg pi ru st wa kn mi ik tm to mr tx tn cu sa tk nu wr it sd swt sdd sbx sfl sdi sb sst sp sr nw od bs) (some (.int (st (3 + k)))) (W2 pre de we da bo be sg pi ru (upd st (3 + k) c) (reW wa st q) (nI (min (q + 1) 10)) mi ik tm to mr tx tn cu sa tk nu wr it sd swt sdd sbx sfl sdi sb sst sp sr nw od bs) from fun pre hp => C.deeper (by decide) (m_adorns hp hP.2.1.2 hN.1 hH.2.1 hN.2.2.2.2.2.1 (fun z => (hf2 z).elim) (fun k2 hk2 e _ => by rw [nIi (a := k2) (b := k) (by omega) (by omega) (e.symm.trans hi)]; exact ⟨rfl, rfl⟩))) (show RelB lt lc P (S.1, S.2.1, S.2.2.1, rPut 6 S.2.2.2.1 i c, S.2.2.2.2.1, S.2.2.2.2.2) (nI (min (q + 1) 10)) (nI (nj j)) (updS ring j S) im kept tb tr tc ts de we da bo be sg pi ru (upd st (3 + k) c) (reW wa st q) (nI (min (q + 1) 10)) mi ik tm to mr tx tn from ⟨n, ne, nb, nt, L, min (q + 1) 10, nj j, NR_rem hN, hP, by rw [rP hi (show k < 6 by omega) (by decide)]; exact SR_3 hN.1 hk hS h2, HR_rem hN.1 hN.2.2.2.2.2.1 hN.2.2.2.2.2.2 hH hS, hI, hT, hL, ht⟩)
    · have h := bne_f h
      exact pairI (show ∀ tl : List AC, CD g 20 mX6_adorns [.ref 1, .int i, .int c] (W1 scr tl lt lc rd sw P D S kk nx ring bu im kept tb tr tc ts) (some (.int (-1))) (W1 scr tl lt lc rd sw P D S kk nx ring bu im kept tb tr tc ts) from fun tl => C.deeper (by decide) (x_adorns hH.2.2.1 hN.2.2.2.2.2.2 hH.1 hN.2.2.2.2.2.1 (fun _ => ⟨rfl, rfl⟩) (fun z => (no_f z (jlt_c hP.2.1.1 h)).elim))) (show ∀ pre : List AC, pre.length = 129 → CD g 20 mX7_adorns [.ref 129, .int i, .int c] (W2 pre de we da bo be sg pi ru st wa kn mi ik tm to mr tx tn cu sa tk nu wr it sd swt sdd sbx sfl sdi sb sst sp sr nw od bs) (some (.int (-1))) (W2 pre de we da bo be sg pi ru st wa kn mi ik tm to mr tx tn cu sa tk nu wr it sd swt sdd sbx sfl sdi sb sst sp sr nw od bs) from fun pre hp => C.deeper (by decide) (m_adorns hp hP.2.1.2 hN.1 hH.2.1 hN.2.2.2.2.2.1 (fun _ => ⟨rfl, rfl⟩) (fun k2 hk2 e _ => (no_f (by rw [e]; exact jlt_in hk2 (by have := hN.1; omega)) h).elim))) (show RelB lt lc P S kk nx ring im kept tb tr tc ts de we da bo be sg pi ru st wa kn mi ik tm to mr tx tn from hR0)
  · exact pairI (show ∀ tl : List AC, CD g 20 mX6_adorns [.ref 1, .int i, .int c] (W1 scr tl lt lc rd sw P D S kk nx ring bu im kept tb tr tc ts) (some (.int (-1))) (W1 scr tl lt lc rd sw P D S kk nx ring bu im kept tb tr tc ts) from fun tl => C.deeper (by decide) (x_adorns hH.2.2.1 hN.2.2.2.2.2.2 hH.1 hN.2.2.2.2.2.1 (fun _ => ⟨rfl, rfl⟩) (fun _ z => absurd z h2))) (show ∀ pre : List AC, pre.length = 129 → CD g 20 mX7_adorns [.ref 129, .int i, .int c] (W2 pre de we da bo be sg pi ru st wa kn mi ik tm to mr tx tn cu sa tk nu wr it sd swt sdd sbx sfl sdi sb sst sp sr nw od bs) (some (.int (-1))) (W2 pre de we da bo be sg pi ru st wa kn mi ik tm to mr tx tn cu sa tk nu wr it sd swt sdd sbx sfl sdi sb sst sp sr nw od bs) from fun pre hp => C.deeper (by decide) (m_adorns hp hP.2.1.2 hN.1 hH.2.1 hN.2.2.2.2.2.1 (fun _ => ⟨rfl, rfl⟩) (fun _ _ _ z => absurd z h2))) (show RelB lt lc P S kk nx ring im kept tb tr tc ts de we da bo be sg pi ru st wa kn mi ik tm to mr tx tn from hR0)
end

/-! sins, lays, undo, keep, back answer alike -/
section
variable {g : GG} {scr : AC} {lt : Fn} {lc : Int32} {rd : RdV} {sw : Bool} {P : ParV} {D : ParV} {S : ScV} {kk : Int32} {nx : Int32} {ring : Nat → ScV} {bu : Fn} {im : Nat → ScV} {kept : Int32} {tb : Fn} {tr : Fn} {tc : Int32} {ts : Int64} {de : Int32} {we : Fn} {da : Int32} {bo : Fn} {be : Int32} {sg : Fn} {pi : Int32} {ru : Int32} {st : Fn} {wa : Fn} {kn : Int32} {mi : Fn} {ik : Nat → Bool} {tm : Int32} {to : Fn} {mr : Int64} {tx : Fn} {tn : Int32} {cu : Int32} {sa : Int32} {tk : Int32} {nu : Int32} {wr : Bool} {it : Int32} {sd : Int32} {swt : Fn} {sdd : Int32} {sbx : Fn} {sfl : Fn} {sdi : Fn} {sb : Int32} {sst : Fn} {sp : Int32} {sr : Int32} {nw : Fn} {od : Fn} {bs : Fn}
theorem or_bit {ne x d : Nat} (hne : ne ≤ 6) (hx : x < 2 ^ ne) (hd : d < ne) : (x ||| 2 ^ d) < 2 ^ ne ∧ nI x ||| bitI (nI d) = nI (x ||| 2 ^ d) := by
  have : ∀ ne, ne < 7 → ∀ x, x < 2 ^ ne → ∀ d, d < ne → (x ||| 2 ^ d) < 2 ^ ne ∧ nI x ||| bitI (nI d) = nI (x ||| 2 ^ d) := by decide +kernel
  exact this ne (by omega) x hx d hd
theorem more_bit {x d : Nat} (hx : x < 64) (hd : d < 6) (h : mhas (nI x) (nI d) = false) : mbits (nI x ||| bitI (nI d)) = bcI (nI x) + 1 := by
  have : ∀ x, x < 64 → ∀ d, d < 6 → mhas (nI x) (nI d) = false → mbits (nI x ||| bitI (nI d)) = bcI (nI x) + 1 := by decide +kernel
  exact this x hx d hd h
theorem SR_9 {n ne j y : Nat} {c : Int32} (hn : n ≤ 6) (hj : j < n) (hS : SR n ne pi S st) (hy : y < 2 ^ ne) (hc : c = nI y) : SR n ne pi (S.1, S.2.1, S.2.2.1, S.2.2.2.1, upd S.2.2.2.2.1 j c, S.2.2.2.2.2) (upd st (9 + j) c) := by
  obtain ⟨⟨a, b, d⟩, e, r0, r1, r2⟩ := hS
  have u0 : upd st (9 + j) c 0 = st 0 := if_neg (by omega)
  have u1 : upd st (9 + j) c 1 = st 1 := if_neg (by omega)
  have u2 : upd st (9 + j) c 2 = st 2 := if_neg (by omega)
  refine ⟨⟨by rw [u0]; exact a, by rw [u1]; exact b, by rw [u2]; exact d⟩, fun k hk => ?_, by rw [u0]; exact r0, by rw [u1]; exact r1, by rw [u2]; exact r2⟩
  have u3 : upd st (9 + j) c (3 + k) = st (3 + k) := if_neg (by omega)
  have u15 : upd st (9 + j) c (15 + k) = st (15 + k) := if_neg (by omega)
  rw [u3, u15]
  by_cases q : k = j
  · subst q
    have v1 : upd S.2.2.2.2.1 k c k = c := if_pos rfl
    have v2 : upd st (9 + k) c (9 + k) = c := if_pos rfl
    exact ⟨(e k hk).1, by rw [v2]; exact v1, (e k hk).2.2.1, ⟨y, hy, by rw [v2]; exact hc⟩, (e k hk).2.2.2.2⟩
  · have v1 : upd S.2.2.2.2.1 j c k = S.2.2.2.2.1 k := if_neg q
    have v2 : upd st (9 + j) c (9 + k) = st (9 + k) := if_neg (by omega)
    exact ⟨(e k hk).1, by rw [v2, ← (e k hk).2.1]; exact v1, (e k hk).2.2.1, by rw [v2]; exact (e k hk).2.2.2.1, (e k hk).2.2.2.2⟩
set_option maxRecDepth 20000 in
set_option maxHeartbeats 200000 in
theorem p_sins {i c : Int32} (hR : RelB lt lc P S kk nx ring im kept tb tr tc ts de we da bo be sg pi ru st wa kn mi ik tm to mr tx tn) : Pair g scr mX6_sins mX7_sins [.int i, .int c] (W2 (W1 scr [] lt lc rd sw P D S kk nx ring bu im kept tb tr tc ts) de we da bo be sg pi ru st wa kn mi ik tm to mr tx tn cu sa tk nu wr it sd swt sdd sbx sfl sdi sb sst sp sr nw od bs) := by
  have hR0 := hR
  obtain ⟨n, ne, nb, nt, L, q, j, hN, hP, hS, hH, hI, hT, hL, ht⟩ := hR
  by_cases h2 : jlt c (nI ne) = true
  · by_cases h : jlt i (nI n) = true
    · obtain ⟨k, hk, hi⟩ := jlt_nat (n := n) (by have := hN.1; omega) h
      obtain ⟨d, hd, hc⟩ := jlt_nat (n := ne) (by have := hN.2.1; omega) h2
      obtain ⟨x, hx, ex⟩ := (hS.2.1 k hk).2.2.2.1
      have h6 := hN.1
      have h7 := hN.2.1
      have ob := or_bit hN.2.1 hx hd
      have hx6 := pow_le64 hN.2.1 hx
      have eb : (isCh S i || tbit (rAt 6 S.2.2.2.2.1 i) c) = (decide (¬ st (15 + k) = -9) || mhas (st (9 + k)) c) := by
        rw [hi, isCh_eq hN.1 hS hk, sin_eq hN.1 hS hk, ex, hc, tb_has hx6 (by omega)]
      have hf : (jlt i P.2.2.1 && jlt c P.2.1) = false → False := fun z => by rw [jlt_c hP.2.1.1 h, jlt_c hP.1.1 h2] at z; cases z
      have hf2 : (jlt i da && jlt c de) = false → False := fun z => by rw [jlt_c hP.2.1.2 h, jlt_c hP.1.2 h2] at z; cases z
      have kk2 : ∀ k2 : Nat, k2 < n → i = nI k2 → k2 = k := fun k2 hk2 e => nIi (a := k2) (b := k) (by omega) (by omega) (e.symm.trans hi)
      by_cases hb : (decide (¬ st (15 + k) = -9) || mhas (st (9 + k)) c) = true
      · have hb1 : isCh S i = false → tbit (rAt 6 S.2.2.2.2.1 i) c = false → False := fun z1 z2 => by rw [← eb, z1, z2] at hb; cases hb
        exact pairI (show ∀ tl : List AC, CD g 20 mX6_sins [.ref 1, .int i, .int c] (W1 scr tl lt lc rd sw P D S kk nx ring bu im kept tb tr tc ts) (some (.int (-2))) (W1 scr tl lt lc rd sw P D S kk nx ring bu im kept tb tr tc ts) from fun tl => C.deeper (by decide) (x_sins hH.2.2.1 hN.2.2.2.2.2.2 hH.1 hN.2.2.2.2.2.1 (fun z => (hf z).elim) (fun _ _ _ => ⟨rfl, rfl⟩) (fun _ _ z1 z2 => (hb1 z1 z2).elim))) (show ∀ pre : List AC, pre.length = 129 → CD g 20 mX7_sins [.ref 129, .int i, .int c] (W2 pre de we da bo be sg pi ru st wa kn mi ik tm to mr tx tn cu sa tk nu wr it sd swt sdd sbx sfl sdi sb sst sp sr nw od bs) (some (.int (-2))) (W2 pre de we da bo be sg pi ru st wa kn mi ik tm to mr tx tn cu sa tk nu wr it sd swt sdd sbx sfl sdi sb sst sp sr nw od bs) from fun pre hp => C.deeper (by decide) (m_sins hp hP.2.1.2 hN.1 hP.1.2 hN.2.1 hH.2.1 hN.2.2.2.2.2.1 (fun z => (hf2 z).elim) (fun _ _ _ _ _ => ⟨rfl, rfl⟩) (fun k2 hk2 e _ z1 z2 => (by rw [kk2 k2 hk2 e] at z1 z2; rw [z1, z2] at hb; exact absurd hb (by decide))))) (show RelB lt lc P S kk nx ring im kept tb tr tc ts de we da bo be sg pi ru st wa kn mi ik tm to mr tx tn from hR0)
      · have hb0 := bne_f hb
        have hm : mhas (nI x) (nI d) = false := by
          rw [ex, hc] at hb0
          cases q : mhas (nI x) (nI d)
          · rfl
          · rw [q, Bool.or_true] at hb0
            cases hb0
        have em := more_bit hx6 (show d < 6 by omega) hm
        exact pairI (show ∀ tl : List AC, CD g 20 mX6_sins [.ref 1, .int i, .int c] (W1 scr tl lt lc rd sw P D S kk nx ring bu im kept tb tr tc ts) (some (.int (mbits (st (9 + k) ||| bitI c)))) (W1 scr tl lt lc rd sw P D (S.1, S.2.1, S.2.2.1, S.2.2.2.1, rPut 6 S.2.2.2.2.1 i (rAt 6 S.2.2.2.2.1 i ||| bitI c), S.2.2.2.2.2) (nI (min (q + 1) 10)) (nI (nj j)) (updS ring j S) bu im kept tb tr tc ts) from fun tl => C.deeper (by decide) (x_sins hH.2.2.1 hN.2.2.2.2.2.2 hH.1 hN.2.2.2.2.2.1 (fun z => (hf z).elim) (fun _ _ z => (no_f (eb ▸ z) hb0).elim) (fun _ _ _ _ => ⟨by rw [hi, sin_eq hN.1 hS hk, ex, hc, em], rfl⟩))) (show ∀ pre : List AC, pre.length = 129 → CD g 20 mX7_sins [.ref 129, .int i, .int c] (W2 pre de we da bo be sg pi ru st wa kn mi ik tm to mr tx tn cu sa tk nu wr it sd swt sdd sbx sfl sdi sb sst sp sr nw od bs) (some (.int (mbits (st (9 + k) ||| bitI c)))) (W2 pre de we da bo be sg pi ru (upd st (9 + k) (st (9 + k) ||| bitI c)) (reW wa st q) (nI (min (q + 1) 10)) mi ik tm to mr tx tn cu sa tk nu wr it sd swt sdd sbx sfl sdi sb sst sp sr nw od bs) from fun pre hp => C.deeper (by decide) (m_sins hp hP.2.1.2 hN.1 hP.1.2 hN.2.1 hH.2.1 hN.2.2.2.2.2.1 (fun z => (hf2 z).elim) (fun k2 hk2 e _ z => (no_f (by rw [kk2 k2 hk2 e] at z; exact z) hb0).elim) (fun k2 hk2 e _ _ _ => by rw [kk2 k2 hk2 e]; exact ⟨rfl, rfl⟩))) (show RelB lt lc P (S.1, S.2.1, S.2.2.1, S.2.2.2.1, rPut 6 S.2.2.2.2.1 i (rAt 6 S.2.2.2.2.1 i ||| bitI c), S.2.2.2.2.2) (nI (min (q + 1) 10)) (nI (nj j)) (updS ring j S) im kept tb tr tc ts de we da bo be sg pi ru (upd st (9 + k) (st (9 + k) ||| bitI c)) (reW wa st q) (nI (min (q + 1) 10)) mi ik tm to mr tx tn from ⟨n, ne, nb, nt, L, min (q + 1) 10, nj j, NR_rem hN, hP, by rw [rP hi (show k < 6 by omega) (by decide), hi, sin_eq hN.1 hS hk]; exact SR_9 hN.1 hk hS ob.1 (by rw [ex, hc]; exact ob.2), HR_rem hN.1 hN.2.2.2.2.2.1 hN.2.2.2.2.2.2 hH hS, hI, hT, hL, ht⟩)
    · have h := bne_f h
      exact pairI (show ∀ tl : List AC, CD g 20 mX6_sins [.ref 1, .int i, .int c] (W1 scr tl lt lc rd sw P D S kk nx ring bu im kept tb tr tc ts) (some (.int (-1))) (W1 scr tl lt lc rd sw P D S kk nx ring bu im kept tb tr tc ts) from fun tl => C.deeper (by decide) (x_sins hH.2.2.1 hN.2.2.2.2.2.2 hH.1 hN.2.2.2.2.2.1 (fun _ => ⟨rfl, rfl⟩) (fun z => (no_f z (jlt_c hP.2.1.1 h)).elim) (fun z => (no_f z (jlt_c hP.2.1.1 h)).elim))) (show ∀ pre : List AC, pre.length = 129 → CD g 20 mX7_sins [.ref 129, .int i, .int c] (W2 pre de we da bo be sg pi ru st wa kn mi ik tm to mr tx tn cu sa tk nu wr it sd swt sdd sbx sfl sdi sb sst sp sr nw od bs) (some (.int (-1))) (W2 pre de we da bo be sg pi ru st wa kn mi ik tm to mr tx tn cu sa tk nu wr it sd swt sdd sbx sfl sdi sb sst sp sr nw od bs) from fun pre hp => C.deeper (by decide) (m_sins hp hP.2.1.2 hN.1 hP.1.2 hN.2.1 hH.2.1 hN.2.2.2.2.2.1 (fun _ => ⟨rfl, rfl⟩) (fun k2 hk2 e _ _ => (no_f (by rw [e]; exact jlt_in hk2 (by have := hN.1; omega)) h).elim) (fun k2 hk2 e _ _ _ => (no_f (by rw [e]; exact jlt_in hk2 (by have := hN.1; omega)) h).elim))) (show RelB lt lc P S kk nx ring im kept tb tr tc ts de we da bo be sg pi ru st wa kn mi ik tm to mr tx tn from hR0)
  · have h2 := bne_f h2
    exact pairI (show ∀ tl : List AC, CD g 20 mX6_sins [.ref 1, .int i, .int c] (W1 scr tl lt lc rd sw P D S kk nx ring bu im kept tb tr tc ts) (some (.int (-1))) (W1 scr tl lt lc rd sw P D S kk nx ring bu im kept tb tr tc ts) from fun tl => C.deeper (by decide) (x_sins hH.2.2.1 hN.2.2.2.2.2.2 hH.1 hN.2.2.2.2.2.1 (fun _ => ⟨rfl, rfl⟩) (fun _ z => (no_f z (jlt_c hP.1.1 h2)).elim) (fun _ z => (no_f z (jlt_c hP.1.1 h2)).elim))) (show ∀ pre : List AC, pre.length = 129 → CD g 20 mX7_sins [.ref 129, .int i, .int c] (W2 pre de we da bo be sg pi ru st wa kn mi ik tm to mr tx tn cu sa tk nu wr it sd swt sdd sbx sfl sdi sb sst sp sr nw od bs) (some (.int (-1))) (W2 pre de we da bo be sg pi ru st wa kn mi ik tm to mr tx tn cu sa tk nu wr it sd swt sdd sbx sfl sdi sb sst sp sr nw od bs) from fun pre hp => C.deeper (by decide) (m_sins hp hP.2.1.2 hN.1 hP.1.2 hN.2.1 hH.2.1 hN.2.2.2.2.2.1 (fun _ => ⟨rfl, rfl⟩) (fun _ _ _ z => (no_f z (jlt_c hP.1.2 h2)).elim) (fun _ _ _ z => (no_f z (jlt_c hP.1.2 h2)).elim))) (show RelB lt lc P S kk nx ring im kept tb tr tc ts de we da bo be sg pi ru st wa kn mi ik tm to mr tx tn from hR0)
end

/-! dead and rate answer alike -/
section
variable {g : GG} {scr : AC} {lt : Fn} {lc : Int32} {rd : RdV} {sw : Bool} {P : ParV} {D : ParV} {S : ScV} {kk : Int32} {nx : Int32} {ring : Nat → ScV} {bu : Fn} {im : Nat → ScV} {kept : Int32} {tb : Fn} {tr : Fn} {tc : Int32} {ts : Int64} {de : Int32} {we : Fn} {da : Int32} {bo : Fn} {be : Int32} {sg : Fn} {pi : Int32} {ru : Int32} {st : Fn} {wa : Fn} {kn : Int32} {mi : Fn} {ik : Nat → Bool} {tm : Int32} {to : Fn} {mr : Int64} {tx : Fn} {tn : Int32} {cu : Int32} {sa : Int32} {tk : Int32} {nu : Int32} {wr : Bool} {it : Int32} {sd : Int32} {swt : Fn} {sdd : Int32} {sbx : Fn} {sfl : Fn} {sdi : Fn} {sb : Int32} {sst : Fn} {sp : Int32} {sr : Int32} {nw : Fn} {od : Fn} {bs : Fn}
theorem er_eq {n ne nb : Nat} (hn : n ≤ 6) (hne : ne ≤ 6) (hP : PR n ne nb P de we da bo be sg pi ru) (hS : SR n ne pi S st) {j : Nat} (hj : j < n) : erI P S (nI j) = if st (15 + j) = -9 then -1000000 else st (15 + j) - trI we bo st ne j := by
  unfold erI
  rw [isCh_eq hn hS hj, chk_eq hn hS hj, bd_eq hn hne hP hS hj]
  by_cases e : st (15 + j) = -9
  · rw [if_pos e, if_neg (fun q => (of_decide_eq_true q) e)]
  · rw [if_neg e, if_pos (decide_eq_true e)]
theorem su_eq {n ne nb : Nat} (hne : ne ≤ 6) (hP : PR n ne nb P de we da bo be sg pi ru) (hS : SR n ne pi S st) {j : Nat} (hj : j < n) : sumI P.2.2.2.2.2.2.1 (st (9 + j)) 6 0 0 = mwI we ne (st (9 + j)) := by
  obtain ⟨x, hx, ex⟩ := (hS.2.1 j hj).2.2.2.1
  rw [ex]
  exact sum_eq hne (fun k hk => (hP.2.2.2.2.2.1 k hk).1) hx
theorem da_eq {n ne nb : Nat} {c : Int32} (hn : n ≤ 6) (hne : ne ≤ 6) (hP : PR n ne nb P de we da bo be sg pi ru) (hS : SR n ne pi S st) {j : Nat} (hj : j < n) : daI0 P S (nI j) c = mdaI pi we bo st ne j c := by
  unfold daI0 mdaI
  rw [er_eq hn hne hP hS hj, rd_eq hn hne hP hS hj, ld_eq hn hne hP hS hj, sin_eq hn hS hj, flo_eq hn hS hj, chk_eq hn hS hj, su_eq hne hP hS hj, rAt_in (show j < 6 by omega) (by decide), (hP.2.2.2.2.2.2.1 j hj).1]
set_option maxRecDepth 20000 in
set_option maxHeartbeats 200000 in
theorem p_dead {i c : Int32} (hR : RelB lt lc P S kk nx ring im kept tb tr tc ts de we da bo be sg pi ru st wa kn mi ik tm to mr tx tn) : Pair g scr mX6_dead mX7_dead [.int i, .int c] (W2 (W1 scr [] lt lc rd sw P D S kk nx ring bu im kept tb tr tc ts) de we da bo be sg pi ru st wa kn mi ik tm to mr tx tn cu sa tk nu wr it sd swt sdd sbx sfl sdi sb sst sp sr nw od bs) := by
  have hR0 := hR
  obtain ⟨n, ne, nb, nt, L, q, j, hN, hP, hS, hH, hI, hT, hL, ht⟩ := hR
  by_cases h : jlt i (nI n) = true
  · obtain ⟨k, hk, hi⟩ := jlt_nat (n := n) (by have := hN.1; omega) h
    have h6 := hN.1
    exact pairJ (show ∀ tl : List AC, CD g 20 mX6_dead [.ref 1, .int i, .int c] (W1 scr tl lt lc rd sw P D S kk nx ring bu im kept tb tr tc ts) (some (.int (mdaI pi we bo st ne k c))) (W1 scr tl lt lc rd sw P D S kk nx ring bu im kept tb tr tc ts) from fun tl => C.deeper (by decide) (x_dead (fun z => (no_f (jlt_c hP.2.1.1 h) z).elim) (fun _ => ⟨by rw [hi, da_eq hN.1 hN.2.1 hP hS hk], rfl⟩))) (fun pre h2 => ∃ (nw9 : Fn), h2 = (W2 pre de we da bo be sg pi ru st wa kn mi ik tm to mr tx tn cu sa tk nu wr it sd swt sdd sbx sfl sdi sb sst sp sr (nw9) od bs)) (show ∀ pre : List AC, pre.length = 129 → C g 20 0 0 mX7_dead [.ref 129, .int i, .int c] (W2 pre de we da bo be sg pi ru st wa kn mi ik tm to mr tx tn cu sa tk nu wr it sd swt sdd sbx sfl sdi sb sst sp sr nw od bs) (fun r h2 => r = some (.int (mdaI pi we bo st ne k c)) ∧ ∃ (nw9 : Fn), h2 = (W2 pre de we da bo be sg pi ru st wa kn mi ik tm to mr tx tn cu sa tk nu wr it sd swt sdd sbx sfl sdi sb sst sp sr (nw9) od bs)) from fun pre hp => C.deeper (by decide) (m_dead hp hP.2.1.2 hN.1 hP.1.2 hN.2.1 (fun z => (no_f (jlt_c hP.2.1.2 h) z).elim) (fun nw2 k2 hk2 e => ⟨by rw [nIi (a := k) (b := k2) (by omega) (by omega) (hi.symm.trans e)], nw2, rfl⟩))) (fun pre h2 q9 => by
      obtain ⟨nw9, q9⟩ := q9
      exact ⟨_, _, _, _, _, _, _, _, _, _, _, _, _, _, _, _, _, _, _, _, _, _, _, _, _, _, _, _, _, _, _, _, _, _, _, _, _, (show RelB lt lc P S kk nx ring im kept tb tr tc ts de we da bo be sg pi ru st wa kn mi ik tm to mr tx tn from hR0), q9⟩)
  · have h := bne_f h
    exact pairI (show ∀ tl : List AC, CD g 20 mX6_dead [.ref 1, .int i, .int c] (W1 scr tl lt lc rd sw P D S kk nx ring bu im kept tb tr tc ts) (some (.int (-1000000))) (W1 scr tl lt lc rd sw P D S kk nx ring bu im kept tb tr tc ts) from fun tl => C.deeper (by decide) (x_dead (fun _ => ⟨rfl, rfl⟩) (fun z => (no_f z (jlt_c hP.2.1.1 h)).elim))) (show ∀ pre : List AC, pre.length = 129 → CD g 20 mX7_dead [.ref 129, .int i, .int c] (W2 pre de we da bo be sg pi ru st wa kn mi ik tm to mr tx tn cu sa tk nu wr it sd swt sdd sbx sfl sdi sb sst sp sr nw od bs) (some (.int (-1000000))) (W2 pre de we da bo be sg pi ru st wa kn mi ik tm to mr tx tn cu sa tk nu wr it sd swt sdd sbx sfl sdi sb sst sp sr nw od bs) from fun pre hp => C.deeper (by decide) (m_dead hp hP.2.1.2 hN.1 hP.1.2 hN.2.1 (fun _ => ⟨rfl, rfl⟩) (fun _ k2 hk2 e => (no_f (by rw [e]; exact jlt_in hk2 (by have := hN.1; omega)) h).elim))) (show RelB lt lc P S kk nx ring im kept tb tr tc ts de we da bo be sg pi ru st wa kn mi ik tm to mr tx tn from hR0)
end

/-! the simple calls answer alike -/
section
variable {g : GG} {scr : AC} {lt : Fn} {lc : Int32} {rd : RdV} {sw : Bool} {P : ParV} {D : ParV} {S : ScV} {kk : Int32} {nx : Int32} {ring : Nat → ScV} {bu : Fn} {im : Nat → ScV} {kept : Int32} {tb : Fn} {tr : Fn} {tc : Int32} {ts : Int64} {de : Int32} {we : Fn} {da : Int32} {bo : Fn} {be : Int32} {sg : Fn} {pi : Int32} {ru : Int32} {st : Fn} {wa : Fn} {kn : Int32} {mi : Fn} {ik : Nat → Bool} {tm : Int32} {to : Fn} {mr : Int64} {tx : Fn} {tn : Int32} {cu : Int32} {sa : Int32} {tk : Int32} {nu : Int32} {wr : Bool} {it : Int32} {sd : Int32} {swt : Fn} {sdd : Int32} {sbx : Fn} {sfl : Fn} {sdi : Fn} {sb : Int32} {sst : Fn} {sp : Int32} {sr : Int32} {nw : Fn} {od : Fn} {bs : Fn}
set_option maxRecDepth 20000 in
set_option maxHeartbeats 200000 in
theorem p_trace  (hR : RelB lt lc P S kk nx ring im kept tb tr tc ts de we da bo be sg pi ru st wa kn mi ik tm to mr tx tn) : Pair g scr mX6_trace mX7_trace [] (W2 (W1 scr [] lt lc rd sw P D S kk nx ring bu im kept tb tr tc ts) de we da bo be sg pi ru st wa kn mi ik tm to mr tx tn cu sa tk nu wr it sd swt sdd sbx sfl sdi sb sst sp sr nw od bs) := by
  have hR0 := hR
  obtain ⟨n, ne, nb, nt, L, q, j, hN, hP, hS, hH, hI, hT, hL, ht⟩ := hR
  refine pairI (show ∀ tl : List AC, CD g 20 mX6_trace [.ref 1] (W1 scr tl lt lc rd sw P D S kk nx ring bu im kept tb tr tc ts) (some (.long ts)) (W1 scr tl lt lc rd sw P D S kk nx ring bu im kept tb tr tc ts) from fun tl => C.deeper (by decide) (x_trace ⟨rfl, rfl⟩)) (show ∀ pre : List AC, pre.length = 129 → CD g 20 mX7_trace [.ref 129] (W2 pre de we da bo be sg pi ru st wa kn mi ik tm to mr tx tn cu sa tk nu wr it sd swt sdd sbx sfl sdi sb sst sp sr nw od bs) (some (.long ts)) (W2 pre de we da bo be sg pi ru st wa kn mi ik tm to mr tx tn cu sa tk nu wr it sd swt sdd sbx sfl sdi sb sst sp sr nw od bs) from fun pre hp => C.deeper (by decide) (m_trace hp ⟨by rw [ht], rfl⟩)) (show RelB lt lc P S kk nx ring im kept tb tr tc ts de we da bo be sg pi ru st wa kn mi ik tm to mr tx tn from hR0)
set_option maxRecDepth 20000 in
set_option maxHeartbeats 200000 in
theorem p_count {c : Int32} (hR : RelB lt lc P S kk nx ring im kept tb tr tc ts de we da bo be sg pi ru st wa kn mi ik tm to mr tx tn) : Pair g scr mX6_count mX7_count [.int c] (W2 (W1 scr [] lt lc rd sw P D S kk nx ring bu im kept tb tr tc ts) de we da bo be sg pi ru st wa kn mi ik tm to mr tx tn cu sa tk nu wr it sd swt sdd sbx sfl sdi sb sst sp sr nw od bs) := by
  have hR0 := hR
  obtain ⟨n, ne, nb, nt, L, q, j, hN, hP, hS, hH, hI, hT, hL, ht⟩ := hR
  have e : mctI de da be pi ru tm tn c = ctI P tc lc c := by
    unfold mctI ctI
    rw [hP.1.1, hP.1.2, hP.2.1.1, hP.2.1.2, hP.2.2.1.1, hP.2.2.1.2, hP.2.2.2.1, hP.2.2.2.2.1, hT.1, hT.2.1, hL.1, hL.2.1]
  exact pairI (show ∀ tl : List AC, CD g 20 mX6_count [.ref 1, .int c] (W1 scr tl lt lc rd sw P D S kk nx ring bu im kept tb tr tc ts) (some (.int (ctI P tc lc c))) (W1 scr tl lt lc rd sw P D S kk nx ring bu im kept tb tr tc ts) from fun tl => C.deeper (by decide) (x_count ⟨rfl, rfl⟩)) (show ∀ pre : List AC, pre.length = 129 → CD g 20 mX7_count [.ref 129, .int c] (W2 pre de we da bo be sg pi ru st wa kn mi ik tm to mr tx tn cu sa tk nu wr it sd swt sdd sbx sfl sdi sb sst sp sr nw od bs) (some (.int (ctI P tc lc c))) (W2 pre de we da bo be sg pi ru st wa kn mi ik tm to mr tx tn cu sa tk nu wr it sd swt sdd sbx sfl sdi sb sst sp sr nw od bs) from fun pre hp => C.deeper (by decide) (m_count hp ⟨by rw [e], rfl⟩)) (show RelB lt lc P S kk nx ring im kept tb tr tc ts de we da bo be sg pi ru st wa kn mi ik tm to mr tx tn from hR0)
set_option maxRecDepth 20000 in
set_option maxHeartbeats 200000 in
theorem p_clear  (hR : RelB lt lc P S kk nx ring im kept tb tr tc ts de we da bo be sg pi ru st wa kn mi ik tm to mr tx tn) : Pair g scr mX6_clear mX7_clear [] (W2 (W1 scr [] lt lc rd sw P D S kk nx ring bu im kept tb tr tc ts) de we da bo be sg pi ru st wa kn mi ik tm to mr tx tn cu sa tk nu wr it sd swt sdd sbx sfl sdi sb sst sp sr nw od bs) := by
  have hR0 := hR
  obtain ⟨n, ne, nb, nt, L, q, j, hN, hP, hS, hH, hI, hT, hL, ht⟩ := hR
  exact pairI (show ∀ tl : List AC, CD g 20 mX6_clear [.ref 1] (W1 scr tl lt lc rd sw P D S kk nx ring bu im kept tb tr tc ts) (some (.int lc)) (W1 scr tl lt (0) rd sw P D S kk nx ring bu im kept tb tr tc ts) from fun tl => C.deeper (by decide) (x_clear ⟨rfl, rfl⟩)) (show ∀ pre : List AC, pre.length = 129 → CD g 20 mX7_clear [.ref 129] (W2 pre de we da bo be sg pi ru st wa kn mi ik tm to mr tx tn cu sa tk nu wr it sd swt sdd sbx sfl sdi sb sst sp sr nw od bs) (some (.int lc)) (W2 pre de we da bo be sg pi ru st wa kn mi ik tm to mr tx (0) cu sa tk nu wr it sd swt sdd sbx sfl sdi sb sst sp sr nw od bs) from fun pre hp => C.deeper (by decide) (m_clear hp ⟨by rw [hL.1, hL.2.1], rfl⟩)) (show RelB lt (0) P S kk nx ring im kept tb tr tc ts de we da bo be sg pi ru st wa kn mi ik tm to mr tx (0) from ⟨n, ne, nb, nt, 0, q, j, ⟨hN.1, hN.2.1, hN.2.2.1, hN.2.2.2.1, Nat.zero_le _, hN.2.2.2.2.2⟩, hP, hS, hH, hI, hT, ⟨rfl, rfl, fun k hk => absurd hk (Nat.not_lt_zero k)⟩, ht⟩)
set_option maxRecDepth 20000 in
set_option maxHeartbeats 200000 in
theorem p_forget  (hR : RelB lt lc P S kk nx ring im kept tb tr tc ts de we da bo be sg pi ru st wa kn mi ik tm to mr tx tn) : Pair g scr mX6_forget mX7_forget [] (W2 (W1 scr [] lt lc rd sw P D S kk nx ring bu im kept tb tr tc ts) de we da bo be sg pi ru st wa kn mi ik tm to mr tx tn cu sa tk nu wr it sd swt sdd sbx sfl sdi sb sst sp sr nw od bs) := by
  have hR0 := hR
  obtain ⟨n, ne, nb, nt, L, q, j, hN, hP, hS, hH, hI, hT, hL, ht⟩ := hR
  exact pairI (show ∀ tl : List AC, CD g 20 mX6_forget [.ref 1] (W1 scr tl lt lc rd sw P D S kk nx ring bu im kept tb tr tc ts) (some (.int tc)) (W1 scr tl lt lc rd sw P D S kk nx ring bu im kept tb tr (0) ts) from fun tl => C.deeper (by decide) (x_forget ⟨rfl, rfl⟩)) (show ∀ pre : List AC, pre.length = 129 → CD g 20 mX7_forget [.ref 129] (W2 pre de we da bo be sg pi ru st wa kn mi ik tm to mr tx tn cu sa tk nu wr it sd swt sdd sbx sfl sdi sb sst sp sr nw od bs) (some (.int tc)) (W2 pre de we da bo be sg pi ru st wa kn mi ik (0) to mr tx tn cu sa tk nu wr it sd swt sdd sbx sfl sdi sb sst sp sr nw od bs) from fun pre hp => C.deeper (by decide) (m_forget hp ⟨by rw [hT.1, hT.2.1], rfl⟩)) (show RelB lt lc P S kk nx ring im kept tb tr (0) ts de we da bo be sg pi ru st wa kn mi ik (0) to mr tx tn from ⟨n, ne, nb, 0, L, q, j, ⟨hN.1, hN.2.1, hN.2.2.1, Nat.zero_le _, hN.2.2.2.2⟩, hP, hS, hH, hI, ⟨rfl, rfl, fun k hk => absurd hk (Nat.not_lt_zero k)⟩, hL, ht⟩)
theorem rP {n k : Nat} {f : Fn} {i x : Int32} (hi : i = nI k) (hk : k < n) (hn : n < 2 ^ 31) : rPut n f i x = upd f k x := by
  rw [hi, rPut_in hk hn]
theorem rA {n k : Nat} {f : Fn} {i : Int32} (hi : i = nI k) (hk : k < n) (hn : n < 2 ^ 31) : rAt n f i = f k := by
  rw [hi, rAt_in hk hn]
theorem bne_f {b : Bool} (h : ¬ b = true) : b = false := by
  cases b
  · rfl
  · exact absurd rfl h
set_option maxRecDepth 20000 in
set_option maxHeartbeats 200000 in
theorem p_type {c : Int32} (hR : RelB lt lc P S kk nx ring im kept tb tr tc ts de we da bo be sg pi ru st wa kn mi ik tm to mr tx tn) : Pair g scr mX6_type mX7_type [.int c] (W2 (W1 scr [] lt lc rd sw P D S kk nx ring bu im kept tb tr tc ts) de we da bo be sg pi ru st wa kn mi ik tm to mr tx tn cu sa tk nu wr it sd swt sdd sbx sfl sdi sb sst sp sr nw od bs) := by
  have hR0 := hR
  obtain ⟨n, ne, nb, nt, L, q, j, hN, hP, hS, hH, hI, hT, hL, ht⟩ := hR
  by_cases h1 : jin c 0 255 = true
  · have hx : ∀ h2 : jin c 0 255 = false, False := fun h2 => by rw [h1] at h2; cases h2
    by_cases h3 : L < 150
    · have e : rPut 150 lt lc c = upd lt L c := rP hL.1 h3 (by decide)
      refine pairI (show ∀ tl : List AC, CD g 20 mX6_type [.ref 1, .int c] (W1 scr tl lt lc rd sw P D S kk nx ring bu im kept tb tr tc ts) (some (.int (lc + 1))) (W1 scr tl (rPut 150 lt lc c) (lc + 1) rd sw P D S kk nx ring bu im kept tb tr tc ts) from fun tl => C.deeper (by decide) (x_type (fun h2 => (hx h2).elim) (fun _ h4 => absurd (by rw [hL.1]; exact nI_lt h3 (by decide)) h4) (fun _ _ => ⟨rfl, rfl⟩))) (show ∀ pre : List AC, pre.length = 129 → CD g 20 mX7_type [.ref 129, .int c] (W2 pre de we da bo be sg pi ru st wa kn mi ik tm to mr tx tn cu sa tk nu wr it sd swt sdd sbx sfl sdi sb sst sp sr nw od bs) (some (.int (lc + 1))) (W2 pre de we da bo be sg pi ru st wa kn mi ik tm to mr (upd tx L c) (tn + 1) cu sa tk nu wr it sd swt sdd sbx sfl sdi sb sst sp sr nw od bs) from fun pre hp => C.deeper (by decide) (m_type hp hL.2.1 hN.2.2.2.2.1 (fun h2 => (hx h2).elim) (fun _ h4 => absurd h4 (by omega)) (fun _ _ => ⟨by rw [hL.1, hL.2.1], rfl⟩))) (show RelB (rPut 150 lt lc c) (lc + 1) P S kk nx ring im kept tb tr tc ts de we da bo be sg pi ru st wa kn mi ik tm to mr (upd tx L c) (tn + 1) from ⟨n, ne, nb, nt, L + 1, q, j, ⟨hN.1, hN.2.1, hN.2.2.1, hN.2.2.2.1, h3, hN.2.2.2.2.2⟩, hP, hS, hH, hI, hT, ⟨?_, ?_, ?_⟩, ht⟩)
      · show lc + 1 = nI (L + 1)
        rw [hL.1, nI_s1]
      · show tn + 1 = nI (L + 1)
        rw [hL.2.1, nI_s1]
      · intro k hk
        show rPut 150 lt lc c k = upd tx L c k ∧ jin (upd tx L c k) 0 255 = true
        rw [e]
        unfold upd
        by_cases e2 : k = L
        · rw [if_pos e2, if_pos e2]
          exact ⟨rfl, h1⟩
        · rw [if_neg e2, if_neg e2]
          exact hL.2.2 k (by omega)
    · have h4 : L = 150 := by have := hN.2.2.2.2.1; omega
      exact pairI (show ∀ tl : List AC, CD g 20 mX6_type [.ref 1, .int c] (W1 scr tl lt lc rd sw P D S kk nx ring bu im kept tb tr tc ts) (some (.int (-3))) (W1 scr tl lt lc rd sw P D S kk nx ring bu im kept tb tr tc ts) from fun tl => C.deeper (by decide) (x_type (fun h2 => (hx h2).elim) (fun _ _ => ⟨rfl, rfl⟩) (fun _ h5 => absurd h5 (by rw [hL.1, h4]; decide)))) (show ∀ pre : List AC, pre.length = 129 → CD g 20 mX7_type [.ref 129, .int c] (W2 pre de we da bo be sg pi ru st wa kn mi ik tm to mr tx tn cu sa tk nu wr it sd swt sdd sbx sfl sdi sb sst sp sr nw od bs) (some (.int (-3))) (W2 pre de we da bo be sg pi ru st wa kn mi ik tm to mr tx tn cu sa tk nu wr it sd swt sdd sbx sfl sdi sb sst sp sr nw od bs) from fun pre hp => C.deeper (by decide) (m_type hp hL.2.1 hN.2.2.2.2.1 (fun h2 => (hx h2).elim) (fun _ _ => ⟨rfl, rfl⟩) (fun _ h5 => absurd h5 h3))) (show RelB lt lc P S kk nx ring im kept tb tr tc ts de we da bo be sg pi ru st wa kn mi ik tm to mr tx tn from hR0)
  · exact pairI (show ∀ tl : List AC, CD g 20 mX6_type [.ref 1, .int c] (W1 scr tl lt lc rd sw P D S kk nx ring bu im kept tb tr tc ts) (some (.int (-1))) (W1 scr tl lt lc rd sw P D S kk nx ring bu im kept tb tr tc ts) from fun tl => C.deeper (by decide) (x_type (fun _ => ⟨rfl, rfl⟩) (fun h2 => absurd h2 h1) (fun h2 => absurd h2 h1))) (show ∀ pre : List AC, pre.length = 129 → CD g 20 mX7_type [.ref 129, .int c] (W2 pre de we da bo be sg pi ru st wa kn mi ik tm to mr tx tn cu sa tk nu wr it sd swt sdd sbx sfl sdi sb sst sp sr nw od bs) (some (.int (-1))) (W2 pre de we da bo be sg pi ru st wa kn mi ik tm to mr tx tn cu sa tk nu wr it sd swt sdd sbx sfl sdi sb sst sp sr nw od bs) from fun pre hp => C.deeper (by decide) (m_type hp hL.2.1 hN.2.2.2.2.1 (fun _ => ⟨rfl, rfl⟩) (fun h2 => absurd h2 h1) (fun h2 => absurd h2 h1))) (show RelB lt lc P S kk nx ring im kept tb tr tc ts de we da bo be sg pi ru st wa kn mi ik tm to mr tx tn from hR0)
set_option maxRecDepth 20000 in
set_option maxHeartbeats 200000 in
theorem p_tells {b v : Int32} (hR : RelB lt lc P S kk nx ring im kept tb tr tc ts de we da bo be sg pi ru st wa kn mi ik tm to mr tx tn) : Pair g scr mX6_tells mX7_tells [.int b, .int v] (W2 (W1 scr [] lt lc rd sw P D S kk nx ring bu im kept tb tr tc ts) de we da bo be sg pi ru st wa kn mi ik tm to mr tx tn cu sa tk nu wr it sd swt sdd sbx sfl sdi sb sst sp sr nw od bs) := by
  have hR0 := hR
  obtain ⟨n, ne, nb, nt, L, q, j, hN, hP, hS, hH, hI, hT, hL, ht⟩ := hR
  by_cases h1 : jin b 1 40 = true
  · by_cases h2 : jin v 0 99 = true
    · have hx : ∀ h2 : (jin b 1 40 && jin v 0 99) = false, False := fun h4 => by rw [h1, h2] at h4; cases h4
      by_cases h3 : nt < 6
      · have e1 : rPut 6 tb tc b = upd tb nt b := rP hT.1 h3 (by decide)
        have e2 : rPut 6 tr tc v = upd tr nt v := rP hT.1 h3 (by decide)
        refine pairI (show ∀ tl : List AC, CD g 20 mX6_tells [.ref 1, .int b, .int v] (W1 scr tl lt lc rd sw P D S kk nx ring bu im kept tb tr tc ts) (some (.int (tc + 1))) (W1 scr tl lt lc rd sw P D S kk nx ring bu im kept (rPut 6 tb tc b) (rPut 6 tr tc v) (tc + 1) ts) from fun tl => C.deeper (by decide) (x_tells (fun h2 => (hx h2).elim) (fun _ _ h4 => absurd (by rw [hT.1]; exact nI_lt h3 (by decide)) h4) (fun _ _ _ => ⟨rfl, rfl⟩))) (show ∀ pre : List AC, pre.length = 129 → CD g 20 mX7_tells [.ref 129, .int b, .int v] (W2 pre de we da bo be sg pi ru st wa kn mi ik tm to mr tx tn cu sa tk nu wr it sd swt sdd sbx sfl sdi sb sst sp sr nw od bs) (some (.int (tc + 1))) (W2 pre de we da bo be sg pi ru st wa kn mi ik (tm + 1) (upd (upd to (2 * nt) b) (2 * nt + 1) v) mr tx tn cu sa tk nu wr it sd swt sdd sbx sfl sdi sb sst sp sr nw od bs) from fun pre hp => C.deeper (by decide) (m_tells hp hT.2.1 hN.2.2.2.1 (fun h2 => (hx h2).elim) (fun _ _ h4 => absurd h4 (by omega)) (fun _ _ _ => ⟨by rw [hT.1, hT.2.1], rfl⟩))) (show RelB lt lc P S kk nx ring im kept (rPut 6 tb tc b) (rPut 6 tr tc v) (tc + 1) ts de we da bo be sg pi ru st wa kn mi ik (tm + 1) (upd (upd to (2 * nt) b) (2 * nt + 1) v) mr tx tn from ⟨n, ne, nb, nt + 1, L, q, j, ⟨hN.1, hN.2.1, hN.2.2.1, h3, hN.2.2.2.2⟩, hP, hS, hH, hI, ⟨?_, ?_, ?_⟩, hL, ht⟩)
        · show tc + 1 = nI (nt + 1)
          rw [hT.1, nI_s1]
        · show tm + 1 = nI (nt + 1)
          rw [hT.2.1, nI_s1]
        · intro k hk
          show rPut 6 tb tc b k = upd (upd to (2 * nt) b) (2 * nt + 1) v (2 * k) ∧ rPut 6 tr tc v k = upd (upd to (2 * nt) b) (2 * nt + 1) v (2 * k + 1) ∧ jin (upd (upd to (2 * nt) b) (2 * nt + 1) v (2 * k)) 1 40 = true ∧ jin (upd (upd to (2 * nt) b) (2 * nt + 1) v (2 * k + 1)) 0 99 = true
          rw [e1, e2]
          unfold upd
          rw [if_neg (show ¬ 2 * k = 2 * nt + 1 by omega), if_neg (show ¬ 2 * k + 1 = 2 * nt by omega)]
          by_cases e : k = nt
          · rw [if_pos e, if_pos e, if_pos (show 2 * k = 2 * nt by omega), if_pos (show 2 * k + 1 = 2 * nt + 1 by omega)]
            exact ⟨rfl, rfl, h1, h2⟩
          · rw [if_neg e, if_neg e, if_neg (show ¬ 2 * k = 2 * nt by omega), if_neg (show ¬ 2 * k + 1 = 2 * nt + 1 by omega)]
            exact hT.2.2 k (by omega)
      · have h4 : nt = 6 := by have := hN.2.2.2.1; omega
        exact pairI (show ∀ tl : List AC, CD g 20 mX6_tells [.ref 1, .int b, .int v] (W1 scr tl lt lc rd sw P D S kk nx ring bu im kept tb tr tc ts) (some (.int (-3))) (W1 scr tl lt lc rd sw P D S kk nx ring bu im kept tb tr tc ts) from fun tl => C.deeper (by decide) (x_tells (fun h2 => (hx h2).elim) (fun _ _ _ => ⟨rfl, rfl⟩) (fun _ _ h5 => absurd h5 (by rw [hT.1, h4]; decide)))) (show ∀ pre : List AC, pre.length = 129 → CD g 20 mX7_tells [.ref 129, .int b, .int v] (W2 pre de we da bo be sg pi ru st wa kn mi ik tm to mr tx tn cu sa tk nu wr it sd swt sdd sbx sfl sdi sb sst sp sr nw od bs) (some (.int (-3))) (W2 pre de we da bo be sg pi ru st wa kn mi ik tm to mr tx tn cu sa tk nu wr it sd swt sdd sbx sfl sdi sb sst sp sr nw od bs) from fun pre hp => C.deeper (by decide) (m_tells hp hT.2.1 hN.2.2.2.1 (fun h2 => (hx h2).elim) (fun _ _ _ => ⟨rfl, rfl⟩) (fun _ _ h5 => absurd h5 h3))) (show RelB lt lc P S kk nx ring im kept tb tr tc ts de we da bo be sg pi ru st wa kn mi ik tm to mr tx tn from hR0)
    · exact pairI (show ∀ tl : List AC, CD g 20 mX6_tells [.ref 1, .int b, .int v] (W1 scr tl lt lc rd sw P D S kk nx ring bu im kept tb tr tc ts) (some (.int (-1))) (W1 scr tl lt lc rd sw P D S kk nx ring bu im kept tb tr tc ts) from fun tl => C.deeper (by decide) (x_tells (fun _ => ⟨rfl, rfl⟩) (fun _ h3 => absurd h3 h2) (fun _ h3 => absurd h3 h2))) (show ∀ pre : List AC, pre.length = 129 → CD g 20 mX7_tells [.ref 129, .int b, .int v] (W2 pre de we da bo be sg pi ru st wa kn mi ik tm to mr tx tn cu sa tk nu wr it sd swt sdd sbx sfl sdi sb sst sp sr nw od bs) (some (.int (-1))) (W2 pre de we da bo be sg pi ru st wa kn mi ik tm to mr tx tn cu sa tk nu wr it sd swt sdd sbx sfl sdi sb sst sp sr nw od bs) from fun pre hp => C.deeper (by decide) (m_tells hp hT.2.1 hN.2.2.2.1 (fun _ => ⟨rfl, rfl⟩) (fun _ h3 => absurd h3 h2) (fun _ h3 => absurd h3 h2))) (show RelB lt lc P S kk nx ring im kept tb tr tc ts de we da bo be sg pi ru st wa kn mi ik tm to mr tx tn from hR0)
  · exact pairI (show ∀ tl : List AC, CD g 20 mX6_tells [.ref 1, .int b, .int v] (W1 scr tl lt lc rd sw P D S kk nx ring bu im kept tb tr tc ts) (some (.int (-1))) (W1 scr tl lt lc rd sw P D S kk nx ring bu im kept tb tr tc ts) from fun tl => C.deeper (by decide) (x_tells (fun _ => ⟨rfl, rfl⟩) (fun h3 => absurd h3 h1) (fun h3 => absurd h3 h1))) (show ∀ pre : List AC, pre.length = 129 → CD g 20 mX7_tells [.ref 129, .int b, .int v] (W2 pre de we da bo be sg pi ru st wa kn mi ik tm to mr tx tn cu sa tk nu wr it sd swt sdd sbx sfl sdi sb sst sp sr nw od bs) (some (.int (-1))) (W2 pre de we da bo be sg pi ru st wa kn mi ik tm to mr tx tn cu sa tk nu wr it sd swt sdd sbx sfl sdi sb sst sp sr nw od bs) from fun pre hp => C.deeper (by decide) (m_tells hp hT.2.1 hN.2.2.2.1 (fun _ => ⟨rfl, rfl⟩) (fun h3 => absurd h3 h1) (fun h3 => absurd h3 h1))) (show RelB lt lc P S kk nx ring im kept tb tr tc ts de we da bo be sg pi ru st wa kn mi ik tm to mr tx tn from hR0)
end

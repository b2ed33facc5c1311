/-! scenes by number -/
section
variable {g : GG} {h : List AC} {Q : Option Value → List AC → Prop} {scr : AC} {tl : List AC} {lt : Fn} {lc : Int32} {rd : RdV} {sw : Bool} {P : ParV} {D : ParV} {S : ScV} {kk : Int32} {nx : Int32} {ring : Nat → ScV} {bu : Fn} {im : Nat → ScV} {kept : Int32} {tb : Fn} {tr : Fn} {tc : Int32} {ts : Int64}
def updS (r : Nat → ScV) (j : Nat) (v : ScV) : Nat → ScV := fun i => if i = j then v else r i
set_option maxRecDepth 100000 in
set_option maxHeartbeats 200000 in
theorem ring_at {j : Nat} (hj : j < 10) : atSc (W1 scr tl lt lc rd sw P D S kk nx ring bu im kept tb tr tc ts) (37 + 7 * j) (ring j) := by
  have : j = 0 ∨ j = 1 ∨ j = 2 ∨ j = 3 ∨ j = 4 ∨ j = 5 ∨ j = 6 ∨ j = 7 ∨ j = 8 ∨ j = 9 := by omega
  rcases this with rfl | rfl | rfl | rfl | rfl | rfl | rfl | rfl | rfl | rfl <;> exact ⟨rfl, rfl, rfl, rfl, rfl, rfl, rfl⟩
set_option maxRecDepth 100000 in
set_option maxHeartbeats 200000 in
theorem ring_set {j : Nat} {v : ScV} (hj : j < 10) : setSc (W1 scr tl lt lc rd sw P D S kk nx ring bu im kept tb tr tc ts) (37 + 7 * j) v = (W1 scr tl lt lc rd sw P D S kk nx (updS ring j v) bu im kept tb tr tc ts) := by
  have : j = 0 ∨ j = 1 ∨ j = 2 ∨ j = 3 ∨ j = 4 ∨ j = 5 ∨ j = 6 ∨ j = 7 ∨ j = 8 ∨ j = 9 := by omega
  rcases this with rfl | rfl | rfl | rfl | rfl | rfl | rfl | rfl | rfl | rfl <;> rfl
theorem ring_v {j : Nat} (hj : j < 10) : ringC.2[j]? = some (.ref (37 + 7 * j)) := by
  have : j = 0 ∨ j = 1 ∨ j = 2 ∨ j = 3 ∨ j = 4 ∨ j = 5 ∨ j = 6 ∨ j = 7 ∨ j = 8 ∨ j = 9 := by omega
  rcases this with rfl | rfl | rfl | rfl | rfl | rfl | rfl | rfl | rfl | rfl <;> rfl
set_option maxRecDepth 100000 in
set_option maxHeartbeats 200000 in
theorem im_at {j : Nat} (hj : j < 2) : atSc (W1 scr tl lt lc rd sw P D S kk nx ring bu im kept tb tr tc ts) (111 + 7 * j) (im j) := by
  have : j = 0 ∨ j = 1 := by omega
  rcases this with rfl | rfl <;> exact ⟨rfl, rfl, rfl, rfl, rfl, rfl, rfl⟩
set_option maxRecDepth 100000 in
set_option maxHeartbeats 200000 in
theorem im_set {j : Nat} {v : ScV} (hj : j < 2) : setSc (W1 scr tl lt lc rd sw P D S kk nx ring bu im kept tb tr tc ts) (111 + 7 * j) v = (W1 scr tl lt lc rd sw P D S kk nx ring bu (updS im j v) kept tb tr tc ts) := by
  have : j = 0 ∨ j = 1 := by omega
  rcases this with rfl | rfl <;> rfl
theorem im_v {j : Nat} (hj : j < 2) : imC.2[j]? = some (.ref (111 + 7 * j)) := by
  have : j = 0 ∨ j = 1 := by omega
  rcases this with rfl | rfl <;> rfl
set_option maxRecDepth 100000 in
set_option maxHeartbeats 200000 in
theorem sc_set {v : ScV} : setSc (W1 scr tl lt lc rd sw P D S kk nx ring bu im kept tb tr tc ts) 27 v = (W1 scr tl lt lc rd sw P D (v) kk nx ring bu im kept tb tr tc ts) := rfl
def nj (j : Nat) : Nat := if j + 1 < 10 then j + 1 else 0
def pj (j : Nat) : Nat := if 0 < j then j - 1 else 9
theorem nj_lt (j : Nat) : nj j < 10 := by unfold nj; split <;> omega
theorem pj_lt {j : Nat} (h : j < 10) : pj j < 10 := by unfold pj; split <;> omega
theorem imin_nI {a b : Nat} (ha : a < 2 ^ 31) (hb : b < 2 ^ 31) : imin (nI a) (nI b) = nI (min a b) := by
  unfold imin
  by_cases h : b < a
  · rw [if_pos (nI_lt h ha), Nat.min_eq_right (by omega)]
  · rw [if_neg (nI_nlt (by omega) hb), Nat.min_eq_left (by omega)]
theorem jin_nat {x : Int32} {n : Nat} (hn : n < 2 ^ 31) (h : jin x 0 (nI n) = true) : ∃ j : Nat, j ≤ n ∧ x = nI j := by
  simp only [jin, Bool.and_eq_true, decide_eq_true_eq, Int32.lt_iff_toInt_lt] at h
  have h1 : ¬ x.toInt < 0 := h.1
  have h2 := h.2
  rw [nI_toInt hn] at h2
  refine ⟨x.toInt.toNat, by omega, Int32.toInt_inj.mp ?_⟩
  rw [nI_toInt (by omega)]
  omega
theorem jlt_nat {x : Int32} {n : Nat} (hn : n < 2 ^ 31) (h : jlt x (nI n) = true) : ∃ j : Nat, j < n ∧ x = nI j := by
  simp only [jlt, Bool.and_eq_true, decide_eq_true_eq, Int32.lt_iff_toInt_lt, Int32.le_iff_toInt_le] at h
  have h1 : ¬ x.toInt < 0 := h.1
  have h2 := h.2
  rw [nI_toInt hn] at h2
  refine ⟨x.toInt.toNat, by omega, Int32.toInt_inj.mp ?_⟩
  rw [nI_toInt (by omega)]
  omega
end

/-! what is remembered -/
theorem SR.congr {n ne : Nat} {pi : Int32} {S : ScV} {f f2 : Fn} (hn : n ≤ 6) (e : ∀ t, t < 21 → f t = f2 t) (h : SR n ne pi S f) : SR n ne pi S f2 := by
  obtain ⟨⟨a, b, c⟩, d, r0, r1, r2⟩ := h
  refine ⟨⟨by rw [← e 0 (by omega)]; exact a, by rw [← e 1 (by omega)]; exact b, by rw [← e 2 (by omega)]; exact c⟩, fun k hk => ?_, by rw [← e 0 (by omega)]; exact r0, by rw [← e 1 (by omega)]; exact r1, by rw [← e 2 (by omega)]; exact r2⟩
  rw [← e (3 + k) (by omega), ← e (9 + k) (by omega), ← e (15 + k) (by omega)]
  exact d k hk
theorem nj_mod {j : Nat} (hj : j < 10) : nj j = (j + 1) % 10 := by
  unfold nj
  split <;> omega
theorem HR_rem {n ne q j : Nat} {pi kk nx kn : Int32} {ring : Nat → ScV} {wa st : Fn} {S : ScV} (hn : n ≤ 6) (hq : q ≤ 10) (hj : j < 10) (hH : HR n ne q j pi kk nx ring kn wa) (hS : SR n ne pi S st) :
    HR n ne (min (q + 1) 10) (nj j) pi (nI (min (q + 1) 10)) (nI (nj j)) (updS ring j S) (nI (min (q + 1) 10)) (reW wa st q) := by
  refine ⟨rfl, rfl, rfl, fun i hi => ?_⟩
  rw [nj_mod hj]
  by_cases h9 : q = 10
  · subst h9
    rw [show min (10 + 1) 10 = 10 from rfl] at hi ⊢
    by_cases e : i = 9
    · subst e
      rw [show ((j + 1) % 10 + 10 - 10 + 9) % 10 = j by omega]
      unfold updS reW
      rw [if_pos rfl, if_pos rfl]
      refine SR.congr hn (fun t ht => ?_) hS
      unfold cpyF
      rw [if_pos (by omega)]
      exact congrArg st (by omega)
    · have hi9 : i < 9 := by omega
      have z := hH.2.2.2 (i + 1) (by omega)
      rw [show (j + 10 - 10 + (i + 1)) % 10 = ((j + 1) % 10 + 10 - 10 + i) % 10 by omega] at z
      unfold updS reW
      rw [if_neg (show ¬ ((j + 1) % 10 + 10 - 10 + i) % 10 = j by omega), if_pos rfl]
      refine SR.congr hn (fun t ht => ?_) z
      unfold cpyF shW
      rw [if_neg (show ¬ (189 ≤ 21 * i + t ∧ 21 * i + t < 189 + 21) by omega), if_pos (show 21 * i + t < 189 by omega)]
      exact congrArg wa (by omega)
  · have hq9 : q < 10 := by omega
    rw [Nat.min_eq_left (show q + 1 ≤ 10 by omega)] at hi ⊢
    unfold updS reW
    rw [if_neg h9]
    by_cases e : i = q
    · subst e
      rw [if_pos (show ((j + 1) % 10 + 10 - (i + 1) + i) % 10 = j by omega)]
      refine SR.congr hn (fun t ht => ?_) hS
      unfold cpyF
      rw [if_pos (by omega)]
      exact congrArg st (by omega)
    · have z := hH.2.2.2 i (by omega)
      rw [show (j + 10 - q + i) % 10 = ((j + 1) % 10 + 10 - (q + 1) + i) % 10 by omega] at z
      rw [if_neg (show ¬ ((j + 1) % 10 + 10 - (q + 1) + i) % 10 = j by omega)]
      refine SR.congr hn (fun t ht => ?_) z
      unfold cpyF
      rw [if_neg (by omega)]
theorem NR_rem {n ne nb nt L q j : Nat} (h : NR n ne nb nt L q j) : NR n ne nb nt L (min (q + 1) 10) (nj j) :=
  ⟨h.1, h.2.1, h.2.2.1, h.2.2.2.1, h.2.2.2.2.1, Nat.min_le_right _ _, nj_lt j⟩

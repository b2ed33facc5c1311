/-! both sides' functions are the same -/
theorem tb_has {x k : Nat} (hx : x < 64) (hk : k < 6) : tbit (nI x) (nI k) = mhas (nI x) (nI k) := by
  have : ∀ x, x < 64 → ∀ k, k < 6 → tbit (nI x) (nI k) = mhas (nI x) (nI k) := by decide +kernel
  exact this x hx k hk
theorem tb_out {x k ne : Nat} (hne : ne ≤ 6) (hx : x < 2 ^ ne) (h1 : ne ≤ k) (hk : k < 6) : tbit (nI x) (nI k) = false := by
  have : ∀ ne, ne < 7 → ∀ x, x < 2 ^ ne → ∀ k, k < 6 → ne ≤ k → tbit (nI x) (nI k) = false := by decide +kernel
  exact this ne (by omega) x hx k hk h1
theorem bc_bits {x : Nat} (hx : x < 64) : bcI (nI x) = mbits (nI x) := by
  have : ∀ x, x < 64 → bcI (nI x) = mbits (nI x) := by decide +kernel
  exact this x hx
theorem pow_le64 {ne x : Nat} (hne : ne ≤ 6) (hx : x < 2 ^ ne) : x < 64 := by
  have := two_le hne
  omega
theorem iter_congr {α : Type} {f f2 : Nat → α → α} : ∀ (m k : Nat) (a : α), (∀ i b, k ≤ i → i < k + m → f i b = f2 i b) → iter f m k a = iter f2 m k a
  | 0, _, _, _ => rfl
  | m + 1, k, a, h => by
    show iter f m (k + 1) (f k a) = iter f2 m (k + 1) (f2 k a)
    rw [h k a (Nat.le_refl _) (by omega)]
    exact iter_congr m (k + 1) _ (fun i b h1 h2 => h i b (by omega) (by omega))
theorem iter_id {α : Type} {f : Nat → α → α} : ∀ (m k : Nat) (a : α), (∀ i b, k ≤ i → i < k + m → f i b = b) → iter f m k a = a
  | 0, _, _, _ => rfl
  | m + 1, k, a, h => by
    show iter f m (k + 1) (f k a) = a
    rw [h k a (Nat.le_refl _) (by omega)]
    exact iter_id m (k + 1) a (fun i b h1 h2 => h i b (by omega) (by omega))
theorem iter_add {α : Type} {f : Nat → α → α} : ∀ (a b k : Nat) (x : α), iter f (a + b) k x = iter f b (k + a) (iter f a k x)
  | 0, b, k, x => by rw [Nat.zero_add, Nat.add_zero]; rfl
  | a + 1, b, k, x => by
    rw [show a + 1 + b = (a + b) + 1 by omega]
    show iter f (a + b) (k + 1) (f k x) = iter f b (k + (a + 1)) (iter f a (k + 1) (f k x))
    rw [iter_add a b (k + 1) (f k x), show k + 1 + a = k + (a + 1) by omega]
theorem sum_eq {f we : Fn} {ne x : Nat} (hne : ne ≤ 6) (hf : ∀ k, k < ne → f k = we k) (hx : x < 2 ^ ne) : sumI f (nI x) 6 0 0 = mwI we ne (nI x) := by
  unfold sumI mwI
  rw [show 6 = ne + (6 - ne) by omega, iter_add ne (6 - ne) 0, Nat.zero_add]
  rw [iter_id (6 - ne) ne _ (fun i b h1 h2 => by unfold sumStep; rw [tb_out hne hx h1 (by omega)]; rfl)]
  refine iter_congr ne 0 0 (fun i b h1 h2 => ?_)
  unfold sumStep mwStep
  rw [tb_has (pow_le64 hne hx) (by omega), hf i (by omega)]
  cases mhas (nI x) (nI i)
  · exact (Int32.add_zero b).symm
  · rfl
section
variable {n ne nb : Nat} {P : ParV} {S : ScV} {de da be pi ru : Int32} {we bo sg st : Fn}
theorem sin_eq (hn : n ≤ 6) (hS : SR n ne pi S st) {j : Nat} (hj : j < n) : rAt 6 S.2.2.2.2.1 (nI j) = st (9 + j) := by
  rw [rAt_in (by omega) (by decide)]
  exact (hS.2.1 j hj).2.1
theorem flo_eq (hn : n ≤ 6) (hS : SR n ne pi S st) {j : Nat} (hj : j < n) : rAt 6 S.2.2.2.1 (nI j) = st (3 + j) := by
  rw [rAt_in (by omega) (by decide)]
  exact (hS.2.1 j hj).1
theorem chk_eq (hn : n ≤ 6) (hS : SR n ne pi S st) {j : Nat} (hj : j < n) : rAt 6 S.2.2.2.2.2 (nI j) = st (15 + j) := by
  rw [rAt_in (by omega) (by decide)]
  exact (hS.2.1 j hj).2.2.1
theorem isCh_eq (hn : n ≤ 6) (hS : SR n ne pi S st) {j : Nat} (hj : j < n) : isCh S (nI j) = decide (¬ st (15 + j) = -9) := by
  unfold isCh
  rw [chk_eq hn hS hj]
theorem bd_eq (hn : n ≤ 6) (hne : ne ≤ 6) (hP : PR n ne nb P de we da bo be sg pi ru) (hS : SR n ne pi S st) {j : Nat} (hj : j < n) : bdI P S (nI j) = trI we bo st ne j := by
  obtain ⟨x, hx, ex⟩ := (hS.2.1 j hj).2.2.2.1
  unfold bdI trI
  rw [sin_eq hn hS hj, flo_eq hn hS hj, rAt_in (show j < 6 by omega) (by decide), (hP.2.2.2.2.2.2.1 j hj).1, ex, sum_eq hne (fun k hk => (hP.2.2.2.2.2.1 k hk).1) hx]
theorem imax_if {x : Int32} : imax 0 x = if x < 0 then 0 else x := by
  unfold imax
  by_cases h : x < 0
  · rw [if_pos h, if_neg (fun e => absurd (Int32.lt_iff_toInt_lt.mp e) (by have := Int32.lt_iff_toInt_lt.mp h; omega))]
  · rw [if_neg h]
    by_cases e : 0 < x
    · rw [if_pos e]
    · rw [if_neg e]
      apply Int32.toInt_inj.mp
      have h1 : ¬ x.toInt < (0 : Int32).toInt := fun q => h (Int32.lt_iff_toInt_lt.mpr q)
      have h2 : ¬ (0 : Int32).toInt < x.toInt := fun q => e (Int32.lt_iff_toInt_lt.mpr q)
      omega
theorem ld_eq (hn : n ≤ 6) (hne : ne ≤ 6) (hP : PR n ne nb P de we da bo be sg pi ru) (hS : SR n ne pi S st) {j : Nat} (hj : j < n) : ldI P S (nI j) = mlI we bo st ne j := by
  unfold ldI mlI
  rw [imax_if, bd_eq hn hne hP hS hj, hS.1.2.1]
theorem rd_eq (hn : n ≤ 6) (hne : ne ≤ 6) (hP : PR n ne nb P de we da bo be sg pi ru) (hS : SR n ne pi S st) {j : Nat} (hj : j < n) : rdI P S (nI j) = laT pi st (mlI we bo st ne j) := by
  unfold rdI nbS laT
  rw [ld_eq hn hne hP hS hj, hS.1.1, hS.1.2.2, hP.2.2.2.1]
theorem ch_eq (hn : n ≤ 6) (hS : SR n ne pi S st) : iter (chStep S) n 0 0 = iter (mcStep st) n 0 0 := by
  refine iter_congr n 0 0 (fun i b h1 h2 => ?_)
  unfold chStep mcStep
  rw [isCh_eq hn hS (show i < n by omega)]
  by_cases e : st (15 + i) = -9
  · rw [if_pos e, if_neg (fun q => (of_decide_eq_true q) e), Int32.or_zero]
  · rw [if_neg e, if_pos (decide_eq_true e)]
theorem wd_eq (hn : n ≤ 6) (hne : ne ≤ 6) (hS : SR n ne pi S st) {d : Nat} (hd : d < ne) : iter (wdStep S (nI d)) n 0 0 = iter (mdStep st (nI d)) n 0 0 := by
  refine iter_congr n 0 0 (fun i b h1 h2 => ?_)
  obtain ⟨x, hx, ex⟩ := (hS.2.1 i (by omega)).2.2.2.1
  unfold wdStep mdStep
  rw [sin_eq hn hS (show i < n by omega), ex, tb_has (pow_le64 hne hx) (by omega)]
  cases mhas (nI x) (nI d)
  · exact (Int32.or_zero).symm
  · rfl
end

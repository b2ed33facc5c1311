/-! orders: the best of all of them, as numbers -/
def digs : Nat → Nat → List Nat
  | 0, _ => []
  | c + 1, q => digs c (q / 6) ++ [q % 6]
theorem digs_len : ∀ (c q : Nat), (digs c q).length = c
  | 0, _ => rfl
  | c + 1, q => by
    show (digs c (q / 6) ++ [q % 6]).length = c + 1
    rw [List.length_append, digs_len c]
    rfl
theorem digs_lt : ∀ (c q d : Nat), d ∈ digs c q → d < 6
  | 0, _, _, h => nomatch h
  | c + 1, q, d, h => by
    rcases List.mem_append.mp (show d ∈ digs c (q / 6) ++ [q % 6] from h) with h | h
    · exact digs_lt c _ d h
    · rw [List.mem_singleton.mp h]
      omega
theorem digs_top : ∀ (m d r : Nat), d < 6 → r < 6 ^ m → digs (m + 1) (d * 6 ^ m + r) = d :: digs m r
  | 0, d, r, hd, hr => by
    have hr0 : r = 0 := by simpa using hr
    subst hr0
    show [] ++ [(d * 1 + 0) % 6] = [d]
    rw [Nat.mul_one, Nat.add_zero, Nat.mod_eq_of_lt hd]
    rfl
  | m + 1, d, r, hd, hr => by
    have e : d * 6 ^ (m + 1) + r = (d * 6 ^ m) * 6 + r := by rw [Nat.pow_succ, Nat.mul_assoc]
    have hr2 : r < 6 ^ m * 6 := by rw [← Nat.pow_succ]; exact hr
    show digs (m + 1) ((d * 6 ^ (m + 1) + r) / 6) ++ [(d * 6 ^ (m + 1) + r) % 6] = d :: (digs m (r / 6) ++ [r % 6])
    rw [e, show ((d * 6 ^ m) * 6 + r) / 6 = d * 6 ^ m + r / 6 by omega, show ((d * 6 ^ m) * 6 + r) % 6 = r % 6 by omega, digs_top m d (r / 6) hd (by omega)]
    rfl
def hs (x d : Nat) : Bool := mhas (nI x) (nI d)
def clr (x d : Nat) : Nat := x &&& (63 ^^^ 2 ^ d)
theorem clr_and {x d : Nat} (hx : x < 64) (hd : d < 6) : nI x &&& (bitI (nI d) ^^^ -1) = nI (clr x d) ∧ clr x d < 64 ∧ clr x d ≤ x := by
  have : ∀ x, x < 64 → ∀ d, d < 6 → nI x &&& (bitI (nI d) ^^^ -1) = nI (clr x d) ∧ clr x d < 64 ∧ clr x d ≤ x := by decide +kernel
  exact this x hx d hd
theorem clr_hs {x d e : Nat} (hx : x < 64) (hd : d < 6) (he : e < 6) : hs (clr x d) e = (hs x e && decide (¬ e = d)) := by
  have : ∀ x, x < 64 → ∀ d, d < 6 → ∀ e, e < 6 → hs (clr x d) e = (hs x e && decide (¬ e = d)) := by decide +kernel
  exact this x hx d hd e he
theorem clr_pop {x d : Nat} (hx : x < 64) (hd : d < 6) (h : hs x d = true) : popN (clr x d) + 1 = popN x := by
  have : ∀ x, x < 64 → ∀ d, d < 6 → hs x d = true → popN (clr x d) + 1 = popN x := by decide +kernel
  exact this x hx d hd h
theorem pop_0 {x : Nat} (hx : x < 64) (h : popN x = 0) : x = 0 := by
  have : ∀ x, x < 64 → popN x = 0 → x = 0 := by decide +kernel
  exact this x hx h
theorem pop_1 {x : Nat} (hx : x < 64) (h : ¬ popN x = 0) : ∃ d, d < 6 ∧ hs x d = true := by
  have : ∀ x, x < 64 → ¬ popN x = 0 → (hs x 0 || hs x 1 || hs x 2 || hs x 3 || hs x 4 || hs x 5) = true := by decide +kernel
  have z := this x hx h
  simp only [Bool.or_eq_true] at z
  rcases z with ((((z | z) | z) | z) | z) | z
  · exact ⟨0, by omega, z⟩
  · exact ⟨1, by omega, z⟩
  · exact ⟨2, by omega, z⟩
  · exact ⟨3, by omega, z⟩
  · exact ⟨4, by omega, z⟩
  · exact ⟨5, by omega, z⟩
theorem hs_out {n x d : Nat} (hn : n ≤ 6) (hx : x < 2 ^ n) (h1 : n ≤ d) (h2 : d < 6) : hs x d = false := by
  have : ∀ n, n < 7 → ∀ x, x < 2 ^ n → ∀ d, d < 6 → n ≤ d → hs x d = false := by decide +kernel
  exact this n (by omega) x hx d h2 h1
theorem clr_comm (x d e : Nat) : clr (clr x d) e = clr (clr x e) d := by
  unfold clr
  rw [Nat.and_assoc, Nat.and_assoc, Nat.and_comm (63 ^^^ 2 ^ d)]
def upO : Option (Nat × List Nat) → Option (Nat × List Nat) → Option (Nat × List Nat)
  | none, b => b
  | some a, none => some a
  | some a, some b => if a.1 ≤ b.1 then some a else some b
theorem upO_none (a : Option (Nat × List Nat)) : upO a none = a := by
  cases a <;> rfl
theorem upO_assoc (a b c : Option (Nat × List Nat)) : upO (upO a b) c = upO a (upO b c) := by
  rcases a with _ | a
  · rfl
  · rcases b with _ | b
    · rfl
    · rcases c with _ | c
      · rw [upO_none, upO_none]
      · show upO (if a.1 ≤ b.1 then some a else some b) (some c) = upO (some a) (if b.1 ≤ c.1 then some b else some c)
        by_cases h1 : a.1 ≤ b.1
        · rw [if_pos h1]
          by_cases h2 : b.1 ≤ c.1
          · rw [if_pos h2]
            show (if a.1 ≤ c.1 then some a else some c) = (if a.1 ≤ b.1 then some a else some b)
            rw [if_pos h1, if_pos (Nat.le_trans h1 h2)]
          · rw [if_neg h2]
        · rw [if_neg h1]
          by_cases h2 : b.1 ≤ c.1
          · rw [if_pos h2]
            show (if b.1 ≤ c.1 then some b else some c) = (if a.1 ≤ b.1 then some a else some b)
            rw [if_pos h2, if_neg h1]
          · rw [if_neg h2]
            show (if b.1 ≤ c.1 then some b else some c) = (if a.1 ≤ c.1 then some a else some c)
            rw [if_neg h2, if_neg (by omega)]
def shO (A d : Nat) : Option (Nat × List Nat) → Option (Nat × List Nat)
  | none => none
  | some a => some (A + a.1, d :: a.2)
theorem shO_up (A d : Nat) (a b : Option (Nat × List Nat)) : shO A d (upO a b) = upO (shO A d a) (shO A d b) := by
  rcases a with _ | a
  · rfl
  · rcases b with _ | b
    · rfl
    · show shO A d (if a.1 ≤ b.1 then some a else some b) = if A + a.1 ≤ A + b.1 then some (A + a.1, d :: a.2) else some (A + b.1, d :: b.2)
      by_cases h : a.1 ≤ b.1
      · rw [if_pos h, if_pos (by omega)]
        rfl
      · rw [if_neg h, if_neg (by omega)]
        rfl
def fo (c : Nat → Option (Nat × List Nat)) : Nat → Nat → Option (Nat × List Nat)
  | 0, _ => none
  | m + 1, k => upO (c k) (fo c m (k + 1))
theorem iter_fo (c : Nat → Option (Nat × List Nat)) : ∀ (m k : Nat) (a : Option (Nat × List Nat)), iter (fun q a => upO a (c q)) m k a = upO a (fo c m k)
  | 0, _, a => (upO_none a).symm
  | m + 1, k, a => by
    show iter (fun q a => upO a (c q)) m (k + 1) (upO a (c k)) = upO a (upO (c k) (fo c m (k + 1)))
    rw [iter_fo c m (k + 1), upO_assoc]
theorem fo_add (c : Nat → Option (Nat × List Nat)) : ∀ (a b k : Nat), fo c (a + b) k = upO (fo c a k) (fo c b (k + a))
  | 0, b, k => by rw [Nat.zero_add]; rfl
  | a + 1, b, k => by
    rw [show a + 1 + b = (a + b) + 1 by omega]
    show upO (c k) (fo c (a + b) (k + 1)) = upO (upO (c k) (fo c a (k + 1))) (fo c b (k + (a + 1)))
    rw [fo_add c a b (k + 1), upO_assoc, show k + 1 + a = k + (a + 1) by omega]
theorem fo_congr {c c2 : Nat → Option (Nat × List Nat)} : ∀ (m k : Nat), (∀ i, k ≤ i → i < k + m → c i = c2 i) → fo c m k = fo c2 m k
  | 0, _, _ => rfl
  | m + 1, k, h => by
    show upO (c k) (fo c m (k + 1)) = upO (c2 k) (fo c2 m (k + 1))
    rw [h k (Nat.le_refl _) (by omega), fo_congr m (k + 1) (fun i h1 h2 => h i (by omega) (by omega))]
theorem fo_shift (c : Nat → Option (Nat × List Nat)) (j : Nat) : ∀ (m k : Nat), fo c m (k + j) = fo (fun i => c (i + j)) m k
  | 0, _ => rfl
  | m + 1, k => by
    show upO (c (k + j)) (fo c m (k + j + 1)) = upO (c (k + j)) (fo (fun i => c (i + j)) m (k + 1))
    rw [show k + j + 1 = k + 1 + j by omega, fo_shift c j m (k + 1)]
theorem fo_sh (A d : Nat) (c : Nat → Option (Nat × List Nat)) : ∀ (m k : Nat), fo (fun i => shO A d (c i)) m k = shO A d (fo c m k)
  | 0, _ => rfl
  | m + 1, k => by
    show upO (shO A d (c k)) (fo (fun i => shO A d (c i)) m (k + 1)) = shO A d (upO (c k) (fo c m (k + 1)))
    rw [fo_sh A d c m (k + 1), shO_up]
theorem fo_none {c : Nat → Option (Nat × List Nat)} : ∀ (m k : Nat), (∀ i, k ≤ i → i < k + m → c i = none) → fo c m k = none
  | 0, _, _ => rfl
  | m + 1, k, h => by
    show upO (c k) (fo c m (k + 1)) = none
    rw [h k (Nat.le_refl _) (by omega), fo_none m (k + 1) (fun i h1 h2 => h i (by omega) (by omega))]
    rfl
theorem fo_block (c : Nat → Option (Nat × List Nat)) (N : Nat) : ∀ (a k : Nat), fo c (a * N) (k * N) = fo (fun d => fo c N (d * N)) a k
  | 0, k => by rw [Nat.zero_mul]; rfl
  | a + 1, k => by
    rw [show (a + 1) * N = N + a * N by rw [Nat.succ_mul, Nat.add_comm], fo_add, show k * N + N = (k + 1) * N by rw [Nat.succ_mul], fo_block c N a (k + 1)]
    rfl
theorem up_prop {a b r : Option (Nat × List Nat)} (h : upO a b = r) : r = a ∨ r = b := by
  rcases a with _ | a
  · exact Or.inr h.symm
  · rcases b with _ | b
    · exact Or.inl h.symm
    · have h2 : (if a.1 ≤ b.1 then some a else some b) = r := h
      split at h2
      · exact Or.inl h2.symm
      · exact Or.inr h2.symm
theorem fo_prop {c : Nat → Option (Nat × List Nat)} {a : Nat × List Nat} : ∀ (m k : Nat), fo c m k = some a → ∃ i, k ≤ i ∧ i < k + m ∧ c i = some a
  | 0, _, h => nomatch h
  | m + 1, k, h => by
    rcases up_prop (show upO (c k) (fo c m (k + 1)) = some a from h) with e | e
    · exact ⟨k, Nat.le_refl _, by omega, e.symm⟩
    · obtain ⟨i, h1, h2, h3⟩ := fo_prop m (k + 1) e.symm
      exact ⟨i, by omega, by omega, h3⟩
theorem up_ex1 {a : Nat × List Nat} (b : Option (Nat × List Nat)) : ∃ r, upO (some a) b = some r := by
  rcases b with _ | b
  · exact ⟨a, rfl⟩
  · show ∃ r, (if a.1 ≤ b.1 then some a else some b) = some r
    split
    · exact ⟨a, rfl⟩
    · exact ⟨b, rfl⟩
theorem up_ex2 {b : Nat × List Nat} (a : Option (Nat × List Nat)) : ∃ r, upO a (some b) = some r := by
  rcases a with _ | a
  · exact ⟨b, rfl⟩
  · exact up_ex1 (some b)
theorem fo_ex {c : Nat → Option (Nat × List Nat)} {a : Nat × List Nat} {i : Nat} : ∀ (m k : Nat), k ≤ i → i < k + m → c i = some a → ∃ b, fo c m k = some b
  | 0, _, h1, h2, _ => absurd h1 (by omega)
  | m + 1, k, h1, h2, h3 => by
    by_cases e : k = i
    · subst e
      show ∃ b, upO (c k) (fo c m (k + 1)) = some b
      rw [h3]
      exact up_ex1 _
    · obtain ⟨b, hb⟩ := fo_ex m (k + 1) (by omega) (by omega) h3
      show ∃ b, upO (c k) (fo c m (k + 1)) = some b
      rw [hb]
      exact up_ex2 _
def okL : List Nat → Nat → Bool
  | [], _ => true
  | d :: w, x => hs x d && okL w (clr x d)
theorem okL_snoc {e : Nat} (he : e < 6) : ∀ (w : List Nat) (x : Nat), (∀ d, d ∈ w → d < 6) → x < 64 → okL (w ++ [e]) x = (hs x e && okL w (clr x e))
  | [], x, _, _ => rfl
  | d :: w, x, h, hx => by
    have hd : d < 6 := h d (List.mem_cons_self ..)
    show (hs x d && okL (w ++ [e]) (clr x d)) = (hs x e && (hs (clr x e) d && okL w (clr (clr x e) d)))
    rw [okL_snoc he w (clr x d) (fun d2 h2 => h d2 (List.mem_cons_of_mem _ h2)) (clr_and hx hd).2.1, clr_hs hx hd he, clr_hs hx he hd, clr_comm x d e]
    rw [show decide (¬ e = d) = decide (¬ d = e) by simp [eq_comm]]
    cases hs x d <;> cases hs x e <;> cases decide (¬ d = e) <;> rfl
section
variable {σ : Type} (cs : σ → Nat → Nat) (nx : σ → Nat → σ)
def tot : List Nat → σ → Nat
  | [], _ => 0
  | k :: w, s => cs s k + tot w (nx s k)
def cand (m x : Nat) (s : σ) (q : Nat) : Option (Nat × List Nat) := if okL (digs m q) x = true then some (tot cs nx (digs m q) s, digs m q) else none
def bst : Nat → Nat → σ → Option (Nat × List Nat)
  | 0, _, _ => some (0, [])
  | m + 1, x, s => fo (fun d => if hs x d = true then shO (cs s d) d (bst m (clr x d) (nx s d)) else none) 6 0
theorem all_bst : ∀ (m x : Nat) (s : σ), fo (cand cs nx m x s) (6 ^ m) 0 = bst cs nx m x s
  | 0, x, s => rfl
  | m + 1, x, s => by
    have e := fo_block (cand cs nx (m + 1) x s) (6 ^ m) 6 0
    rw [Nat.zero_mul] at e
    rw [show 6 ^ (m + 1) = 6 * 6 ^ m by rw [Nat.pow_succ, Nat.mul_comm], e]
    show fo (fun d => fo (cand cs nx (m + 1) x s) (6 ^ m) (d * 6 ^ m)) 6 0 = fo (fun d => if hs x d = true then shO (cs s d) d (bst cs nx m (clr x d) (nx s d)) else none) 6 0
    refine fo_congr 6 0 (fun d _ hd => ?_)
    have hd : d < 6 := by omega
    rw [show fo (cand cs nx (m + 1) x s) (6 ^ m) (d * 6 ^ m) = fo (fun i => cand cs nx (m + 1) x s (i + d * 6 ^ m)) (6 ^ m) 0 by rw [← fo_shift, Nat.zero_add]]
    by_cases h : hs x d = true
    · rw [if_pos h, ← all_bst m (clr x d) (nx s d), ← fo_sh]
      refine fo_congr _ 0 (fun i _ hi => ?_)
      unfold cand
      rw [Nat.add_comm i, digs_top m d i hd (by omega)]
      show (if (hs x d && okL (digs m i) (clr x d)) = true then some (cs s d + tot cs nx (digs m i) (nx s d), d :: digs m i) else none) = _
      rw [h, Bool.true_and]
      by_cases h2 : okL (digs m i) (clr x d) = true
      · rw [if_pos h2, if_pos h2]
        rfl
      · rw [if_neg h2, if_neg h2]
        rfl
    · rw [if_neg h]
      refine fo_none _ 0 (fun i _ hi => ?_)
      unfold cand
      rw [Nat.add_comm i, digs_top m d i hd (by omega)]
      show (if (hs x d && okL (digs m i) (clr x d)) = true then some (cs s d + tot cs nx (digs m i) (nx s d), d :: digs m i) else none) = none
      rw [if_neg (fun z => h (Bool.and_eq_true _ _ |>.mp z).1)]
theorem bst_some {gd : σ → Prop} {N : Nat} (h1 : ∀ s k, gd s → k < N → cs s k ≤ 1000 ∧ gd (nx s k)) (hN : N ≤ 6) : ∀ (m x : Nat) (s : σ), gd s → x < 2 ^ N → popN x = m → ∃ t w, bst cs nx m x s = some (t, w) ∧ t ≤ 1000 * m ∧ w.length = m
  | 0, x, s, _, _, _ => ⟨0, [], rfl, by omega, rfl⟩
  | m + 1, x, s, hg, hx, hp => by
    have hx6 : x < 64 := pow_le64 hN hx
    obtain ⟨d, hd, hh⟩ := pop_1 hx6 (show ¬ popN x = 0 by omega)
    have kN : ∀ k, k < 6 → hs x k = true → k < N := fun k hk hh => by
      by_cases q : N ≤ k
      · rw [hs_out hN hx q hk] at hh
        cases hh
      · omega
    have sub : ∀ k, k < 6 → hs x k = true → ∃ t w, bst cs nx m (clr x k) (nx s k) = some (t, w) ∧ t ≤ 1000 * m ∧ w.length = m := fun k hk hh => bst_some h1 hN m (clr x k) (nx s k) (h1 s k hg (kN k hk hh)).2 (by have := (clr_and hx6 hk).2.2; omega) (by have := clr_pop hx6 hk hh; omega)
    obtain ⟨t, w, e, _, _⟩ := sub d hd hh
    obtain ⟨⟨t2, w2⟩, e2⟩ := fo_ex (c := fun d => if hs x d = true then shO (cs s d) d (bst cs nx m (clr x d) (nx s d)) else none) (i := d) 6 0 (by omega) (by omega) (show (if hs x d = true then shO (cs s d) d (bst cs nx m (clr x d) (nx s d)) else none) = some (cs s d + t, d :: w) by rw [if_pos hh, e]; rfl)
    refine ⟨t2, w2, e2, ?_⟩
    obtain ⟨i, _, hi, e3⟩ := fo_prop 6 0 e2
    have e3 : (if hs x i = true then shO (cs s i) i (bst cs nx m (clr x i) (nx s i)) else none) = some (t2, w2) := e3
    by_cases q : hs x i = true
    · rw [if_pos q] at e3
      obtain ⟨t4, w4, e4, b4, l4⟩ := sub i (by omega) q
      rw [e4] at e3
      have e5 : some (cs s i + t4, i :: w4) = some (t2, w2) := e3
      injection e5 with e5
      injection e5 with e6 e7
      have := (h1 s i hg (kN i (by omega) q)).1
      refine ⟨by omega, ?_⟩
      rw [← e7, List.length_cons, l4]
    · rw [if_neg q] at e3
      cases e3
theorem bst_head {m x : Nat} {s : σ} {t : Nat} {w : List Nat} (h : bst cs nx (m + 1) x s = some (t, w)) : ∃ k t2 w2, k < 6 ∧ hs x k = true ∧ w = k :: w2 ∧ t = cs s k + t2 ∧ bst cs nx m (clr x k) (nx s k) = some (t2, w2) := by
  obtain ⟨i, _, hi, e3⟩ := fo_prop 6 0 h
  have e3 : (if hs x i = true then shO (cs s i) i (bst cs nx m (clr x i) (nx s i)) else none) = some (t, w) := e3
  by_cases q : hs x i = true
  · rw [if_pos q] at e3
    rcases hb : bst cs nx m (clr x i) (nx s i) with _ | ⟨t4, w4⟩
    · rw [hb] at e3
      cases e3
    · rw [hb] at e3
      have e5 : some (cs s i + t4, i :: w4) = some (t, w) := e3
      injection e5 with e5
      injection e5 with e6 e7
      exact ⟨i, t4, w4, by omega, q, e7.symm, e6.symm, hb⟩
  · rw [if_neg q] at e3
    cases e3
end

/-! the gate: both readers, token by token -/
def TKR (tk vl tk2 nu : Int32) : Prop :=
  (tk = 0 ∧ tk2 = 0) ∨ (tk = 1 ∧ tk2 = 2 ∧ vl = nu ∧ 0 ≤ nu.toInt ∧ nu.toInt ≤ 99) ∨ (tk = 2 ∧ tk2 = 4) ∨ (tk = 59 ∧ tk2 = 3) ∨ (tk2 = 1 ∧ tk = nu ∧ (nu = 100 ∨ nu = 108 ∨ nu = 98 ∨ nu = 112 ∨ nu = 114))
def TS (L : Nat) (s : PSt) (s2 : MSt) : Prop := s.1 = s2.2.1 ∧ s.2.1 = s2.1 ∧ s.2.1 ≤ L ∧ s.2.2.2.2.1 = s2.2.2.2.2 ∧ TKR s.2.2.1 s.2.2.2.1 s2.2.2.1 s2.2.2.2.1
section
variable {lt tx : Fn} {L : Nat}
theorem sk_eq (hl : ∀ k, k < L → lt k = tx k) : ∀ (m b : Nat), b + m ≤ L → skR lt m b = skR tx m b
  | 0, _, _ => rfl
  | m + 1, b, h => by
    show (if lt b = 32 then skR lt m (b + 1) else b) = (if tx b = 32 then skR tx m (b + 1) else b)
    rw [hl b (by omega), sk_eq hl m (b + 1) (by omega)]
theorem nm_pos (hl : ∀ k, k < L → lt k = tx k) : ∀ (m b : Nat) (v v2 : Int32), b + m ≤ L → (nmR lt m b v).1 = (nmM tx m b v2).1
  | 0, _, _, _, _ => rfl
  | m + 1, b, v, v2, h => by
    show (if dgt (lt b) = true then nmR lt m (b + 1) (10 * v + lt b - 48) else (b, v)).1 = (if dgt (tx b) = true then nmM tx m (b + 1) (if v2 ≤ 99 then 10 * v2 + tx b - 48 else v2) else (b, v2)).1
    rw [hl b (by omega)]
    by_cases c : dgt (tx b) = true
    · rw [if_pos c, if_pos c]
      exact nm_pos hl m (b + 1) _ _ (by omega)
    · rw [if_neg c, if_neg c]
theorem nmM_big : ∀ (m b : Nat) (v : Int32), ¬ v ≤ 99 → (nmM tx m b v).2 = v
  | 0, _, _, _ => rfl
  | m + 1, b, v, h => by
    show (if dgt (tx b) = true then nmM tx m (b + 1) (if v ≤ 99 then 10 * v + tx b - 48 else v) else (b, v)).2 = v
    by_cases c : dgt (tx b) = true
    · rw [if_pos c, if_neg h]
      exact nmM_big m (b + 1) v h
    · rw [if_neg c]
theorem nmR_stop {m b : Nat} {v : Int32} (h : m = 0 ∨ dgt (lt b) = false) : nmR lt m b v = (b, v) := by
  rcases m with _ | m
  · rfl
  · rcases h with h | h
    · omega
    · show (if dgt (lt b) = true then nmR lt m (b + 1) (10 * v + lt b - 48) else (b, v)) = (b, v)
      rw [h]
      rfl
theorem nmM_stop {m b : Nat} {v : Int32} (h : m = 0 ∨ dgt (tx b) = false) : nmM tx m b v = (b, v) := by
  rcases m with _ | m
  · rfl
  · rcases h with h | h
    · omega
    · show (if dgt (tx b) = true then nmM tx m (b + 1) (if v ≤ 99 then 10 * v + tx b - 48 else v) else (b, v)) = (b, v)
      rw [h]
      rfl
theorem nmR_go {m b : Nat} {v : Int32} (h : dgt (lt b) = true) : nmR lt (m + 1) b v = nmR lt m (b + 1) (10 * v + lt b - 48) := by
  show (if dgt (lt b) = true then nmR lt m (b + 1) (10 * v + lt b - 48) else (b, v)) = _
  rw [if_pos h]
theorem nmM_go {m b : Nat} {v : Int32} (h : dgt (tx b) = true) (hv : v ≤ 99) : nmM tx (m + 1) b v = nmM tx m (b + 1) (10 * v + tx b - 48) := by
  show (if dgt (tx b) = true then nmM tx m (b + 1) (if v ≤ 99 then 10 * v + tx b - 48 else v) else (b, v)) = _
  rw [if_pos h, if_pos hv]
theorem d10 {v c : Int32} (h1 : 0 ≤ v.toInt) (h2 : v.toInt ≤ 99) (hc : dgt c = true) : (10 * v + c - 48).toInt = 10 * v.toInt + c.toInt - 48 ∧ 48 ≤ c.toInt ∧ c.toInt ≤ 57 := by
  have x48 : (48 : Int32).toInt = 48 := rfl
  have x57 : (57 : Int32).toInt = 57 := rfl
  have j := jin_i (show jin c 48 57 = true from hc)
  have m : (10 * v).toInt = 10 * v.toInt := by
    rw [Int32.toInt_mul, show (10 : Int32).toInt = 10 from rfl]
    exact Int.bmod_eq_of_le (by omega) (by omega)
  have a := tI_add (x := 10 * v) (y := c) (by omega) (by omega)
  have b := tI_sub (x := 10 * v + c) (y := 48) (by omega) (by omega)
  omega
theorem sub_1 {p q : Nat} (h1 : p ≤ q) (h2 : q ≤ 1000) : nI q - nI p ≤ 1 ↔ q ≤ p + 1 := by
  have t1 := nI_tI (t := q) (by omega)
  have t2 := nI_tI (t := p) (by omega)
  have e := tI_sub (x := nI q) (y := nI p) (by omega) (by omega)
  have x1 : (1 : Int32).toInt = 1 := rfl
  rw [Int32.le_iff_toInt_le, e]
  omega
theorem pl_1 {p : Nat} : plR lt p (p + 1) = true := by
  unfold plR
  rw [show p + 1 - p = 1 by omega]
  rfl
theorem pl_2 {p : Nat} : plR lt p (p + 2) = decide (¬ lt p = 48) := by
  unfold plR
  rw [show p + 2 - p = 2 by omega, show decide (nI 2 = 1) = false by decide, show decide (nI 2 = 2) = true by decide, Bool.false_or, Bool.true_and]
theorem pl_3 {p q : Nat} (h : p + 3 ≤ q) (h2 : q ≤ 1000) : plR lt p q = false := by
  unfold plR
  rw [decide_eq_false (show ¬ nI (q - p) = 1 from fun z => absurd (nIi (a := q - p) (b := 1) (by omega) (by omega) z) (by omega)), decide_eq_false (show ¬ nI (q - p) = 2 from fun z => absurd (nIi (a := q - p) (b := 2) (by omega) (by omega) z) (by omega)), Bool.false_or, Bool.false_and]
theorem nm_tok (hl : ∀ k, k < L → lt k = tx k) (hL : L ≤ 150) {p : Nat} (hp : p < L) (hd : dgt (tx p) = true) : (nmR lt (L - p) p 0).1 = (nmM tx (L - p) p 0).1 ∧ p < (nmR lt (L - p) p 0).1 ∧ (nmR lt (L - p) p 0).1 ≤ L ∧ TKR (if plR lt p (nmR lt (L - p) p 0).1 = true then 1 else 2) (nmR lt (L - p) p 0).2 (bdM tx p (nmM tx (L - p) p 0).1 (nmM tx (L - p) p 0).2) (nmM tx (L - p) p 0).2 := by
  obtain ⟨m, hm⟩ : ∃ m, L - p = m + 1 := ⟨L - p - 1, by omega⟩
  have hdl : dgt (lt p) = true := by rw [hl p hp]; exact hd
  have x0 : (0 : Int32).toInt = 0 := rfl
  have x99 : (99 : Int32).toInt = 99 := rfl
  have x48 : (48 : Int32).toInt = 48 := rfl
  rw [hm, nmR_go hdl, nmM_go hd (by decide), hl p hp]
  have k0 := d10 (v := 0) (c := tx p) (by omega) (by omega) hd
  generalize hd0 : (10 * 0 + tx p - 48 : Int32) = d0 at k0 ⊢
  have n0 : d0 ≤ 99 := Int32.le_iff_toInt_le.mpr (by omega)
  have n0b : ¬ 99 < d0 := fun z => absurd (Int32.lt_iff_toInt_lt.mp z) (by omega)
  have ge := nmR_ge lt m (p + 1) d0
  refine ⟨nm_pos hl m (p + 1) d0 d0 (by omega), by omega, by omega, ?_⟩
  by_cases c1 : m = 0 ∨ dgt (tx (p + 1)) = false
  · have c1l : m = 0 ∨ dgt (lt (p + 1)) = false := by
      rcases c1 with c1 | c1
      · exact Or.inl c1
      · by_cases z : m = 0
        · exact Or.inl z
        · exact Or.inr (by rw [hl (p + 1) (by omega)]; exact c1)
    rw [nmR_stop c1l, nmM_stop c1]
    show TKR (if plR lt p (p + 1) = true then 1 else 2) d0 (bdM tx p (p + 1) d0) d0
    rw [pl_1, if_pos rfl]
    unfold bdM
    rw [if_neg n0b, if_pos ((sub_1 (by omega) (by omega)).mpr (by omega)), ite_self]
    exact Or.inr (Or.inl ⟨rfl, rfl, rfl, by omega, by omega⟩)
  · have hm0 : ¬ m = 0 := fun z => c1 (Or.inl z)
    have hd1 : dgt (tx (p + 1)) = true := by
      cases z : dgt (tx (p + 1))
      · exact absurd (Or.inr z) c1
      · rfl
    obtain ⟨m1, rfl⟩ : ∃ m1, m = m1 + 1 := ⟨m - 1, by omega⟩
    have hp1 : p + 1 < L := by omega
    have hdl1 : dgt (lt (p + 1)) = true := by rw [hl (p + 1) hp1]; exact hd1
    rw [nmR_go hdl1, nmM_go hd1 n0, hl (p + 1) hp1]
    have k1 := d10 (v := d0) (c := tx (p + 1)) (by omega) (by omega) hd1
    generalize (10 * d0 + tx (p + 1) - 48 : Int32) = d1 at k1 ⊢
    have n1 : d1 ≤ 99 := Int32.le_iff_toInt_le.mpr (by omega)
    have n1b : ¬ 99 < d1 := fun z => absurd (Int32.lt_iff_toInt_lt.mp z) (by omega)
    by_cases c2 : m1 = 0 ∨ dgt (tx (p + 1 + 1)) = false
    · have c2l : m1 = 0 ∨ dgt (lt (p + 1 + 1)) = false := by
        rcases c2 with c2 | c2
        · exact Or.inl c2
        · by_cases z : m1 = 0
          · exact Or.inl z
          · exact Or.inr (by rw [hl (p + 1 + 1) (by omega)]; exact c2)
      rw [nmR_stop c2l, nmM_stop c2]
      show TKR (if plR lt p (p + 2) = true then 1 else 2) d1 (bdM tx p (p + 2) d1) d1
      rw [pl_2, hl p hp]
      unfold bdM
      rw [if_neg n1b, if_neg (fun z => absurd ((sub_1 (p := p) (q := p + 2) (by omega) (by omega)).mp z) (by omega))]
      by_cases c3 : tx p = 48
      · rw [if_pos c3, if_neg (fun z => (of_decide_eq_true z) c3)]
        exact Or.inr (Or.inr (Or.inl ⟨rfl, rfl⟩))
      · rw [if_neg c3, if_pos (decide_eq_true c3)]
        exact Or.inr (Or.inl ⟨rfl, rfl, rfl, by omega, by omega⟩)
    · have hm1 : ¬ m1 = 0 := fun z => c2 (Or.inl z)
      have hd2 : dgt (tx (p + 1 + 1)) = true := by
        cases z : dgt (tx (p + 1 + 1))
        · exact absurd (Or.inr z) c2
        · rfl
      obtain ⟨m2, rfl⟩ : ∃ m2, m1 = m2 + 1 := ⟨m1 - 1, by omega⟩
      have hp2 : p + 1 + 1 < L := by omega
      have hdl2 : dgt (lt (p + 1 + 1)) = true := by rw [hl (p + 1 + 1) hp2]; exact hd2
      rw [nmR_go hdl2, nmM_go hd2 n1, hl (p + 1 + 1) hp2]
      have k2 := d10 (v := d1) (c := tx (p + 1 + 1)) (by omega) (by omega) hd2
      generalize (10 * d1 + tx (p + 1 + 1) - 48 : Int32) = d2 at k2 ⊢
      have ge2 := nmR_ge lt m2 (p + 1 + 1 + 1) d2
      have eq := nm_pos hl m2 (p + 1 + 1 + 1) d2 d2 (by omega)
      rw [pl_3 (by omega) (by omega), if_neg (by decide), ← eq]
      have b4 : bdM tx p (nmR lt m2 (p + 1 + 1 + 1) d2).1 (nmM tx m2 (p + 1 + 1 + 1) d2).2 = 4 := by
        unfold bdM
        by_cases c3 : tx p = 48
        · rw [if_pos c3, if_neg (fun z => absurd ((sub_1 (by omega) (by omega)).mp z) (by omega)), ite_self]
        · have t48 : ¬ (tx p).toInt = 48 := fun z => c3 (Int32.toInt_inj.mp (by omega))
          have big : ¬ d2 ≤ 99 := fun z => absurd (Int32.le_iff_toInt_le.mp z) (by omega)
          rw [nmM_big m2 _ d2 big, if_pos (Int32.lt_iff_toInt_lt.mpr (by omega))]
      rw [b4]
      exact Or.inr (Or.inr (Or.inl ⟨rfl, rfl⟩))
theorem sg_tk {c : Int32} : sgn c = (decide (tkM c = 1) || decide (tkM c = 3)) ∧ (tkM c = 1 → (c = 100 ∨ c = 108 ∨ c = 98 ∨ c = 112 ∨ c = 114)) ∧ (tkM c = 3 → c = 59) ∧ (tkM c = 1 ∨ tkM c = 3 ∨ tkM c = 4) := by
  unfold sgn tkM
  by_cases c1 : c = 100
  · subst c1; decide
  · by_cases c2 : c = 108
    · subst c2; decide
    · by_cases c3 : c = 98
      · subst c3; decide
      · by_cases c4 : c = 112
        · subst c4; decide
        · by_cases c5 : c = 114
          · subst c5; decide
          · by_cases c6 : c = 59
            · subst c6; decide
            · rw [if_neg c1, if_neg c2, if_neg c3, if_neg c4, if_neg c5, if_neg c6, decide_eq_false c1, decide_eq_false c2, decide_eq_false c3, decide_eq_false c4, decide_eq_false c5, decide_eq_false c6]
              exact ⟨by decide, fun z => absurd z (by decide), fun z => absurd z (by decide), Or.inr (Or.inr rfl)⟩
theorem tk_rel (hl : ∀ k, k < L → lt k = tx k) (hL : L ≤ 150) {s : PSt} {s2 : MSt} (h : TS L s s2) : TS L (tkS lt L s) (nextM tx L s2) ∧ s.2.1 ≤ (tkS lt L s).2.1 ∧ (¬ (tkS lt L s).2.2.1 = 0 → s.2.1 < (tkS lt L s).2.1) := by
  obtain ⟨h1, h2, h3, h4, h5⟩ := h
  have ge := skR_ge lt (L - s.2.1) s.2.1
  have e : nextM tx L s2 = nxM tx L (skR lt (L - s.2.1) s.2.1) s.2.2.2.2.1 := by
    unfold nextM
    rw [← h2, ← h4, ← sk_eq hl (L - s.2.1) s.2.1 (by omega)]
  have key : ∀ p, s.2.1 ≤ p → p ≤ L → ∀ T : Nat × Nat × Int32 × Int32, T = (if L ≤ p then (p, p, 0, s.2.2.2.1) else if dgt (lt p) = true then (p, (nmR lt (L - p) p 0).1, (if plR lt p (nmR lt (L - p) p 0).1 = true then 1 else 2), (nmR lt (L - p) p 0).2) else (p, p + 1, (if sgn (lt p) = true then lt p else 2), s.2.2.2.1)) → TS L (T.1, T.2.1, T.2.2.1, T.2.2.2, s.2.2.2.2.1, s.2.2.2.2.2.1, s.2.2.2.2.2.2) (nxM tx L p s.2.2.2.2.1) ∧ s.2.1 ≤ T.2.1 ∧ (¬ T.2.2.1 = 0 → s.2.1 < T.2.1) := by
    intro p q1 q2 T eT
    unfold nxM
    by_cases c : L ≤ p
    · rw [if_pos c] at eT ⊢
      subst eT
      exact ⟨⟨rfl, rfl, q2, rfl, Or.inl ⟨rfl, rfl⟩⟩, q1, fun z => absurd rfl z⟩
    · have hp : p < L := by omega
      rw [if_neg c, hl p hp] at eT
      rw [if_neg c]
      by_cases d : dgt (tx p) = true
      · rw [if_pos d] at eT ⊢
        subst eT
        obtain ⟨n1, n2, n3, n4⟩ := nm_tok hl hL hp d
        exact ⟨⟨rfl, n1, n3, rfl, n4⟩, by show s.2.1 ≤ (nmR lt (L - p) p 0).1; omega, fun _ => by show s.2.1 < (nmR lt (L - p) p 0).1; omega⟩
      · rw [if_neg d] at eT ⊢
        subst eT
        refine ⟨⟨rfl, rfl, hp, rfl, ?_⟩, by show s.2.1 ≤ p + 1; omega, fun _ => by show s.2.1 < p + 1; omega⟩
        show TKR (if sgn (tx p) = true then tx p else 2) s.2.2.2.1 (tkM (tx p)) (tx p)
        obtain ⟨k1, k2, k3, k4⟩ := sg_tk (c := tx p)
        rw [k1]
        rcases k4 with k4 | k4 | k4
        · rw [k4, if_pos (by decide)]
          exact Or.inr (Or.inr (Or.inr (Or.inr ⟨rfl, rfl, k2 k4⟩)))
        · rw [k4, if_pos (by decide), k3 k4]
          exact Or.inr (Or.inr (Or.inr (Or.inl ⟨rfl, rfl⟩)))
        · rw [k4, if_neg (by decide)]
          exact Or.inr (Or.inr (Or.inl ⟨rfl, rfl⟩))
  rw [e]
  exact key _ ge.1 (by omega) _ rfl
theorem wr_rel {s : PSt} {s2 : MSt} (h : TS L s s2) : TS L (wrS s) (wrM s2) := ⟨h.1, h.2.1, h.2.2.1, rfl, h.2.2.2.2⟩
theorem nu_ok {lo hi : Int32} {s : PSt} {s2 : MSt} (h : TS L s s2) : okN lo hi s = okM lo hi s2 ∧ (okM lo hi s2 = true → s.2.2.2.1 = s2.2.2.2.1) := by
  obtain ⟨_, _, _, h4, h5⟩ := h
  unfold okN okM
  rw [h4]
  rcases h5 with ⟨a, b⟩ | ⟨a, b, c, _⟩ | ⟨a, b⟩ | ⟨a, b⟩ | ⟨a, b, c⟩
  · rw [a, b, show decide ((0 : Int32) = 1) = false by decide, show decide ((0 : Int32) = 2) = false by decide, Bool.false_and, Bool.false_and, Bool.and_false]
    exact ⟨rfl, fun z => by cases z⟩
  · rw [a, b, c, show decide ((1 : Int32) = 1) = true by decide, show decide ((2 : Int32) = 2) = true by decide]
    exact ⟨rfl, fun _ => rfl⟩
  · rw [a, b, show decide ((2 : Int32) = 1) = false by decide, show decide ((4 : Int32) = 2) = false by decide, Bool.false_and, Bool.false_and, Bool.and_false]
    exact ⟨rfl, fun z => by cases z⟩
  · rw [a, b, show decide ((59 : Int32) = 1) = false by decide, show decide ((3 : Int32) = 2) = false by decide, Bool.false_and, Bool.false_and, Bool.and_false]
    exact ⟨rfl, fun z => by cases z⟩
  · have f1 : decide (s2.2.2.2.1 = 1) = false := by
      rcases c with c | c | c | c | c <;> rw [c] <;> decide
    rw [a, b, f1, show decide ((1 : Int32) = 2) = false by decide, Bool.false_and, Bool.false_and, Bool.and_false]
    exact ⟨rfl, fun z => by cases z⟩
theorem nu_rel (hl : ∀ k, k < L → lt k = tx k) (hL : L ≤ 150) {lo hi : Int32} {s : PSt} {s2 : MSt} (h : TS L s s2) : TS L (nuR lt L lo hi s) (tnS tx L lo hi s2) ∧ s.2.1 ≤ (nuR lt L lo hi s).2.1 ∧ ((nuR lt L lo hi s).2.2.2.2.1 = false → nuV lo hi s = tnV lo hi s2 ∧ jin (tnV lo hi s2) lo hi = true) := by
  have k := nu_ok (lo := lo) (hi := hi) h
  unfold nuR tnS nuV tnV
  rw [k.1]
  by_cases c : okM lo hi s2 = true
  · rw [if_pos c, if_pos c, if_pos c, if_pos c]
    have t := tk_rel hl hL h
    exact ⟨t.1, t.2.1, fun _ => ⟨k.2 c, ((Bool.and_eq_true _ _).mp ((Bool.and_eq_true _ _).mp c).2).2⟩⟩
  · rw [if_neg c, if_neg c, if_neg c, if_neg c]
    exact ⟨wr_rel h, Nat.le_refl _, fun z => absurd (show true = false from z) (by decide)⟩
theorem cl_rel (hl : ∀ k, k < L → lt k = tx k) (hL : L ≤ 150) {s : PSt} {s2 : MSt} (h : TS L s s2) : TS L (clR lt L s) (closeM tx L s2) ∧ ((clR lt L s).2.2.2.2.1 = false → okC s = true ∧ (¬ (clR lt L s).2.2.1 = 0 → s.2.1 < (clR lt L s).2.1)) := by
  have k : okC s = decide (s2.2.2.2.2 = false ∧ s2.2.2.1 = 3) := by
    obtain ⟨_, _, _, h4, h5⟩ := h
    unfold okC
    rw [h4]
    rcases h5 with ⟨a, b⟩ | ⟨a, b, c, _⟩ | ⟨a, b⟩ | ⟨a, b⟩ | ⟨a, b, c⟩
    · rw [a, b]; cases s2.2.2.2.2 <;> decide
    · rw [a, b]; cases s2.2.2.2.2 <;> decide
    · rw [a, b]; cases s2.2.2.2.2 <;> decide
    · rw [a, b]; cases s2.2.2.2.2 <;> decide
    · rw [a, b]
      rcases c with c | c | c | c | c <;> rw [c] <;> cases s2.2.2.2.2 <;> decide
  unfold clR closeM
  by_cases c : s2.2.2.2.2 = false ∧ s2.2.2.1 = 3
  · rw [k, if_pos (decide_eq_true c), if_pos c]
    have t := tk_rel hl hL h
    exact ⟨t.1, fun _ => ⟨decide_eq_true c, t.2.2⟩⟩
  · rw [k, if_neg (fun z => c (of_decide_eq_true z)), if_neg c]
    exact ⟨wr_rel h, fun z => absurd (show true = false from z) (by decide)⟩
theorem rdM_stop {hi did : Int32} {s2 : MSt} : ∀ m : Nat, ¬ (s2.2.2.2.2 = false ∧ s2.2.2.1 = 2) → rdM tx L hi m did s2 = (did, s2)
  | 0, _ => rfl
  | m + 1, h => by
    unfold rdM
    rw [if_neg h]
theorem rdM_go {hi did : Int32} {s2 : MSt} {w : Bool} (m : Nat) (h : s2.2.2.2.2 = false ∧ s2.2.2.1 = 2) (hw : (jin s2.2.2.2.1 0 hi && mhas did s2.2.2.2.1) = w) : rdM tx L hi (m + 1) did s2 = rdM tx L hi m (did ||| (if (tnS tx L 0 hi (s2.1, s2.2.1, s2.2.2.1, s2.2.2.2.1, w)).2.2.2.2 then 0 else bitI (tnV 0 hi (s2.1, s2.2.1, s2.2.2.1, s2.2.2.2.1, w)))) (tnS tx L 0 hi (s2.1, s2.2.1, s2.2.2.1, s2.2.2.2.1, w)) := by
  show (if s2.2.2.2.2 = false ∧ s2.2.2.1 = 2 then _ else _) = _
  rw [if_pos h, hw]
theorem rd_end {hi did : Int32} {s2 : MSt} (m : Nat) (h : s2.2.2.2.2 = false ∧ s2.2.2.1 = 2) (hw : (jin s2.2.2.2.1 0 hi && !mhas did s2.2.2.2.1) = false) : rdM tx L hi (m + 1) did s2 = (did, wrM s2) := by
  have e : tnS tx L 0 hi (s2.1, s2.2.1, s2.2.2.1, s2.2.2.2.1, (jin s2.2.2.2.1 0 hi && mhas did s2.2.2.2.1)) = wrM s2 := by
    have : okM 0 hi (s2.1, s2.2.1, s2.2.2.1, s2.2.2.2.1, (jin s2.2.2.2.1 0 hi && mhas did s2.2.2.2.1)) = false := by
      show (!(jin s2.2.2.2.1 0 hi && mhas did s2.2.2.2.1) && (decide (s2.2.2.1 = 2) && jin s2.2.2.2.1 0 hi)) = false
      cases q1 : jin s2.2.2.2.1 0 hi
      · rw [Bool.and_false, Bool.and_false]
      · rw [q1] at hw
        cases q2 : mhas did s2.2.2.2.1
        · rw [q2] at hw
          cases hw
        · rfl
    unfold tnS
    rw [if_neg (by rw [this]; decide)]
    rfl
  rw [rdM_go m h rfl, e]
  show rdM tx L hi m (did ||| (if true = true then 0 else _)) (wrM s2) = _
  rw [if_pos rfl, Int32.or_zero]
  exact rdM_stop m (fun z => absurd (show true = false from z.1) (by decide))
theorem pop_or {n x d : Nat} (hn : n ≤ 6) (hx : x < 2 ^ n) (hd : d < n) (h : tbit (nI x) (nI d) = false) : popN (x ||| 2 ^ d) = popN x + 1 := by
  have : ∀ x, x < 64 → ∀ d, d < 6 → tbit (nI x) (nI d) = false → popN (x ||| 2 ^ d) = popN x + 1 := by decide +kernel
  exact this x (pow_le64 hn hx) d (by omega) h
theorem pop_6 {x d : Nat} (hx : x < 64) (h : popN x = 6) (hd : d < 6) : tbit (nI x) (nI d) = true := by
  have : ∀ x, x < 64 → popN x = 6 → ∀ d, d < 6 → tbit (nI x) (nI d) = true := by decide +kernel
  exact this x hx h d hd
/-- after the deeds that he did: alike, or the reference has already marked what closing will mark -/
def RD (n : Nat) (r : Int32 × PSt) (L : Nat) (r2 : Int32 × MSt) : Prop := (TS L r.2 r2.2 ∧ r.1 = r2.1 ∧ ∃ x : Nat, x < 2 ^ n ∧ r2.1 = nI x) ∨ (TS L (wrS r.2) r2.2 ∧ okC r.2 = false ∧ r2.2.2.2.2.2 = true)
theorem rd_rel (hl : ∀ k, k < L → lt k = tx k) (hL : L ≤ 150) {n : Nat} (hn : n ≤ 6) : ∀ (m m2 x : Nat) (s : PSt) (s2 : MSt), m < m2 → popN x + m = 6 → x < 2 ^ n → TS L s s2 → s.2.2.2.2.1 = false → RD n (rdnR lt L (nI n) m (nI x) s) L (rdM tx L (nI n - 1) m2 (nI x) s2) ∧ s.2.1 ≤ (rdnR lt L (nI n) m (nI x) s).2.2.1 ∧ (rdnR lt L (nI n) m (nI x) s).2.2.2.2.2.2 = s.2.2.2.2.2
  | m, m2, x, s, s2, hm, hp, hx, h, hw => by
    obtain ⟨m2, rfl⟩ : ∃ m3, m2 = m3 + 1 := ⟨m2 - 1, by omega⟩
    have hx6 := pow_le64 hn hx
    have hw2 : s2.2.2.2.2 = false := h.2.2.2.1.symm.trans hw
    have stop : RD n (nI x, s) L (rdM tx L (nI n - 1) (m2 + 1) (nI x) s2) ∨ (mbR (nI n) (nI x) s = true ∧ s2.2.2.1 = 2 ∧ s.2.2.2.1 = s2.2.2.2.1) := by
      by_cases c : s2.2.2.1 = 2
      · have ek : s.2.2.1 = 1 ∧ s.2.2.2.1 = s2.2.2.2.1 := by
          rcases h.2.2.2.2 with ⟨a, b⟩ | ⟨a, b, d, _⟩ | ⟨a, b⟩ | ⟨a, b⟩ | ⟨b, a, d⟩
          · rw [b] at c; exact absurd c (by decide)
          · exact ⟨a, d⟩
          · rw [b] at c; exact absurd c (by decide)
          · rw [b] at c; exact absurd c (by decide)
          · rw [b] at c; exact absurd c (by decide)
        by_cases c2 : mbR (nI n) (nI x) s = true
        · exact Or.inr ⟨c2, c, ek.2⟩
        · refine Or.inl (Or.inr ?_)
          have hf : (jin s2.2.2.2.1 0 (nI n - 1) && !mhas (nI x) s2.2.2.2.1) = false := by
            rw [jin_jlt hn]
            by_cases c3 : jlt s2.2.2.2.1 (nI n) = true
            · obtain ⟨d, hd, ed⟩ := jlt_nat (n := n) (by omega) c3
              have z := bne_f c2
              unfold mbR at z
              rw [ek.1, ek.2, c3, show decide ((1 : Int32) = 1) = true from rfl, Bool.true_and, Bool.true_and, ed, tb_has hx6 (by omega)] at z
              rw [c3, ed, Bool.true_and]
              exact z
            · rw [bne_f c3, Bool.false_and]
          rw [rd_end m2 ⟨hw2, c⟩ hf]
          refine ⟨wr_rel h, ?_, rfl⟩
          show (!s.2.2.2.2.1 && decide (s.2.2.1 = 59)) = false
          rw [ek.1, show decide ((1 : Int32) = 59) = false by decide, Bool.and_false]
      · rw [rdM_stop (m2 + 1) (fun z => c z.2)]
        exact Or.inl (Or.inl ⟨h, rfl, x, hx, rfl⟩)
    rcases m with _ | m
    · rcases stop with st | ⟨st, s3, s4⟩
      · exact ⟨st, Nat.le_refl _, rfl⟩
      · exfalso
        unfold mbR at st
        obtain ⟨_, st⟩ := (Bool.and_eq_true _ _).mp st
        obtain ⟨z1, z2⟩ := (Bool.and_eq_true _ _).mp st
        obtain ⟨d, hd, ed⟩ := jlt_nat (n := n) (by omega) z1
        rw [ed, pop_6 hx6 (by omega) (by omega)] at z2
        cases z2
    · by_cases c : mbR (nI n) (nI x) s = true
      · obtain ⟨z0, st⟩ := (Bool.and_eq_true _ _).mp (show (decide (s.2.2.1 = 1) && (jlt s.2.2.2.1 (nI n) && !tbit (nI x) s.2.2.2.1)) = true from c)
        obtain ⟨z1, z2⟩ := (Bool.and_eq_true _ _).mp st
        have z0 : s.2.2.1 = 1 := of_decide_eq_true z0
        have ek : s2.2.2.1 = 2 ∧ s.2.2.2.1 = s2.2.2.2.1 := by
          rcases h.2.2.2.2 with ⟨a, b⟩ | ⟨a, b, d, _⟩ | ⟨a, b⟩ | ⟨a, b⟩ | ⟨b, a, d⟩
          · rw [a] at z0; exact absurd z0 (by decide)
          · exact ⟨b, d⟩
          · rw [a] at z0; exact absurd z0 (by decide)
          · rw [a] at z0; exact absurd z0 (by decide)
          · rw [a] at z0
            rcases d with d | d | d | d | d <;> rw [d] at z0 <;> exact absurd z0 (by decide)
        obtain ⟨d, hd, ed⟩ := jlt_nat (n := n) (by omega) z1
        rw [ed] at z2
        have zb : tbit (nI x) (nI d) = false := by
          cases q : tbit (nI x) (nI d)
          · rfl
          · rw [q] at z2
            cases z2
        have ob := or_bit hn hx hd
        have en : s2.2.2.2.1 = nI d := ek.2.symm.trans ed
        have hmh : mhas (nI x) (nI d) = false := by rw [← tb_has hx6 (by omega)]; exact zb
        have hji : jin (nI d) 0 (nI n - 1) = true := by rw [jin_jlt hn]; exact jlt_in hd (by omega)
        have e0 : (s2.1, s2.2.1, s2.2.2.1, s2.2.2.2.1, false) = s2 := by rw [← hw2]
        have eok : okM 0 (nI n - 1) s2 = true := by
          unfold okM
          rw [hw2, ek.1, en, hji]
          rfl
        have er : rdM tx L (nI n - 1) (m2 + 1) (nI x) s2 = rdM tx L (nI n - 1) m2 (nI (x ||| 2 ^ d)) (nextM tx L s2) := by
          rw [rdM_go m2 ⟨hw2, ek.1⟩ (w := false) (by rw [en, hmh, Bool.and_false]), e0]
          unfold tnS tnV
          rw [if_pos eok, if_pos eok, show (nextM tx L s2).2.2.2.2 = false by
            rw [← (tk_rel hl hL h).1.2.2.2.1]; exact hw]
          show rdM tx L (nI n - 1) m2 (nI x ||| bitI s2.2.2.2.1) (nextM tx L s2) = _
          rw [en, ob.2]
        have el : rdnR lt L (nI n) (m + 1) (nI x) s = rdnR lt L (nI n) m (nI (x ||| 2 ^ d)) (tkS lt L s) := by
          show (if mbR (nI n) (nI x) s = true then rdnR lt L (nI n) m (nI x ||| bitI s.2.2.2.1) (tkS lt L s) else (nI x, s)) = _
          rw [if_pos c, ed, ob.2]
        have t := tk_rel hl hL h
        have z := rd_rel hl hL hn m m2 (x ||| 2 ^ d) (tkS lt L s) (nextM tx L s2) (by omega) (by rw [pop_or hn hx hd zb]; omega) ob.1 t.1 hw
        rw [er, el]
        exact ⟨z.1, by have := t.2.1; have := z.2.1; omega, z.2.2⟩
      · have el : rdnR lt L (nI n) (m + 1) (nI x) s = (nI x, s) := by
          show (if mbR (nI n) (nI x) s = true then _ else (nI x, s)) = _
          rw [if_neg c]
        rw [el]
        rcases stop with st | ⟨st, _, _⟩
        · exact ⟨st, Nat.le_refl _, rfl⟩
        · exact absurd st c
end

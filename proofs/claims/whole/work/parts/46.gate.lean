/-! the gate: items, and the call -/
theorem up_rel {f f2 : Fn} {m : Nat} {a b : Int32} {p : Int32 → Prop} (h : ∀ k, k < m → f k = f2 k ∧ p (f2 k)) (e : a = b) (hp : p b) : ∀ k, k < m + 1 → upd f m a k = upd f2 m b k ∧ p (upd f2 m b k) := by
  intro k hk
  unfold upd
  by_cases c : k = m
  · rw [if_pos c, if_pos c]
    exact ⟨e, hp⟩
  · rw [if_neg c, if_neg c]
    exact h k (by omega)
def DR (pf rf : Bool) (D : ParV) (D2 : SD) : Prop :=
  ((D.2.1 = nI D2.1 ∧ D2.1 ≤ 6) ∧ (D.2.2.1 = nI D2.2.2.1 ∧ D2.2.2.1 ≤ 6) ∧ (D.2.2.2.1 = nI D2.2.2.2.2.2.2.1 ∧ D2.2.2.2.2.2.2.1 ≤ 6)) ∧
  ((pf = true → D.2.2.2.2.1 = D2.2.2.2.2.2.2.2.2.1 ∧ jin D2.2.2.2.2.2.2.2.2.1 10 99 = true) ∧ (pf = false → D.2.2.2.2.1 = 80 ∧ D2.2.2.2.2.2.2.2.2.1 = -1)) ∧
  ((rf = true → D.2.2.2.2.2.1 = D2.2.2.2.2.2.2.2.2.2 ∧ jin D2.2.2.2.2.2.2.2.2.2 0 9 = true) ∧ (rf = false → D.2.2.2.2.2.1 = 2 ∧ D2.2.2.2.2.2.2.2.2.2 = -1)) ∧
  (∀ k, k < D2.1 → D.2.2.2.2.2.2.1 k = D2.2.1 k ∧ jin (D2.2.1 k) (-20) 20 = true) ∧
  (∀ k, k < D2.2.2.1 → D.2.2.2.2.2.2.2.1 k = D2.2.2.2.1 k ∧ jin (D2.2.2.2.1 k) 1 40 = true) ∧
  (∀ k, k < D2.2.2.1 → D.2.2.2.2.2.2.2.2.1 k = D2.2.2.2.2.1 k ∧ jin (D2.2.2.2.2.1 k) 0 9 = true) ∧
  (∀ k, k < D2.2.2.1 → D.2.2.2.2.2.2.2.2.2.1 k = D2.2.2.2.2.2.1 k ∧ ∃ x : Nat, x < 2 ^ D2.1 ∧ D2.2.2.2.2.2.1 k = nI x) ∧
  (∀ k, k < D2.2.2.2.2.2.2.1 → D.2.2.2.2.2.2.2.2.2.2 k = D2.2.2.2.2.2.2.2.1 k ∧ jin (D2.2.2.2.2.2.2.2.1 k) 1 60 = true)
section
variable {lt tx : Fn} {L : Nat}
theorem okC_w {s : PSt} (h : okC s = true) : s.2.2.2.2.1 = false := by
  have z := ((Bool.and_eq_true _ _).mp (show (!s.2.2.2.2.1 && decide (s.2.2.1 = 59)) = true from h)).1
  cases q : s.2.2.2.2.1
  · rfl
  · rw [q] at z
    cases z
theorem nuR_fl {lo hi : Int32} {s : PSt} : (nuR lt L lo hi s).2.2.2.2.2 = s.2.2.2.2.2 := by
  unfold nuR
  split <;> rfl
theorem clR_fl {s : PSt} : (clR lt L s).2.2.2.2.2 = s.2.2.2.2.2 := by
  unfold clR
  split <;> rfl
theorem ch_1 (hl : ∀ k, k < L → lt k = tx k) (hL : L ≤ 150) (lo hi : Int32) {s : PSt} {s2 : MSt} (h : TS L s s2) : TS L (clR lt L (nuR lt L lo hi (tkS lt L s))) (closeM tx L (tnS tx L lo hi (nextM tx L s2))) ∧ ((clR lt L (nuR lt L lo hi (tkS lt L s))).2.2.2.2.1 = false → okC (nuR lt L lo hi (tkS lt L s)) = true ∧ nuV lo hi (tkS lt L s) = tnV lo hi (nextM tx L s2) ∧ jin (tnV lo hi (nextM tx L s2)) lo hi = true ∧ (¬ (clR lt L (nuR lt L lo hi (tkS lt L s))).2.2.1 = 0 → s.2.1 < (clR lt L (nuR lt L lo hi (tkS lt L s))).2.1)) ∧ (clR lt L (nuR lt L lo hi (tkS lt L s))).2.2.2.2.2 = s.2.2.2.2.2 := by
  have t := tk_rel hl hL h
  have u := nu_rel hl hL (lo := lo) (hi := hi) t.1
  have c := cl_rel hl hL u.1
  refine ⟨c.1, fun z => ?_, clR_fl.trans nuR_fl⟩
  obtain ⟨z1, z2⟩ := c.2 z
  obtain ⟨z3, z4⟩ := u.2.2 (okC_w z1)
  exact ⟨z1, z3, z4, fun q => by have := z2 q; have := t.2.1; have := u.2.1; omega⟩
theorem clD_ok {s : PSt} {D : ParV} (h : okC s = true) : clD s D = (D.1 + 1, D.2) := by
  unfold clD
  rw [if_pos h]
theorem sub20 {v : Int32} (h : jin v 0 40 = true) : jin (v - 20) (-20) 20 = true := by
  have j := jin_i h
  have x0 : (0 : Int32).toInt = 0 := rfl
  have x40 : (40 : Int32).toInt = 40 := rfl
  have x20 : (20 : Int32).toInt = 20 := rfl
  have xm : (-20 : Int32).toInt = -20 := rfl
  have e := tI_sub (x := v) (y := 20) (by omega) (by omega)
  exact jin_of (by omega) (by omega)
/-- what one item comes to -/
def IR2 (L : Nat) (s : PSt) (D : ParV) (r : PSt × ParV) (r2 : MSt × SD) : Prop := TS L r.1 r2.1 ∧ (r.1.2.2.2.2.1 = false → DR r.1.2.2.2.2.2.1 r.1.2.2.2.2.2.2 r.2 r2.2 ∧ r.2.1 = D.1 + 1 ∧ (¬ r.1.2.2.1 = 0 → s.2.1 < r.1.2.1))
theorem ir_wr {s : PSt} {s2 : MSt} {D D' : ParV} {D2 : SD} {f : Bool × Bool} (h : TS L s s2) : IR2 L s D ((s.1, s.2.1, s.2.2.1, s.2.2.2.1, true, f), D') (wrM s2, D2) :=
  ⟨⟨h.1, h.2.1, h.2.2.1, rfl, h.2.2.2.2⟩, fun z => absurd (show true = false from z) (by decide)⟩
theorem may_n {n : Nat} {c : Int32} (hn : n ≤ 6) (hc : c = nI n) : decide (¬ 6 ≤ c) = !decide (6 ≤ nI n) := by
  rw [hc]
  by_cases q : (6 : Int32) ≤ nI n
  · rw [decide_eq_true q, decide_eq_false (fun z => z q)]
    rfl
  · rw [decide_eq_false q, decide_eq_true q]
    rfl
theorem it_de (hl : ∀ k, k < L → lt k = tx k) (hL : L ≤ 150) {s : PSt} {s2 : MSt} {D : ParV} {D2 : SD} (h : TS L s s2) (hd : DR s.2.2.2.2.2.1 s.2.2.2.2.2.2 D D2) : IR2 L s D (deR lt L s D) (if (!decide (6 ≤ nI D2.1)) = true then itD tx L s2 D2 else (wrM s2, D2)) := by
  obtain ⟨⟨⟨d1, d2⟩, d3, d4⟩, hp, hr, hw, hb, hf, hi, hs⟩ := hd
  unfold deR de1
  rw [may_n d2 d1]
  by_cases c : (!decide (6 ≤ nI D2.1)) = true
  · rw [if_pos c, c, show opR lt L true s = tkS lt L s from rfl]
    have k := ch_1 hl hL 0 40 h
    have hn6 := le6_lt d2 c
    refine ⟨k.1, fun z => ?_⟩
    obtain ⟨z1, z2, z3, z4⟩ := k.2.1 z
    have z : (clR lt L (nuR lt L 0 40 (tkS lt L s))).2.2.2.2.1 = false := z
    refine ⟨?_, ?_, z4⟩
    · show DR (clR lt L (nuR lt L 0 40 (tkS lt L s))).2.2.2.2.2.1 (clR lt L (nuR lt L 0 40 (tkS lt L s))).2.2.2.2.2.2 (if (clR lt L (nuR lt L 0 40 (tkS lt L s))).2.2.2.2.1 = true then clD (nuR lt L 0 40 (tkS lt L s)) D else adDe (clD (nuR lt L 0 40 (tkS lt L s)) D) (nuV 0 40 (tkS lt L s) - 20)) (itD tx L s2 D2).2
      rw [k.2.2, if_neg (by rw [z]; decide), clD_ok z1]
      refine ⟨⟨⟨?_, hn6⟩, d3, d4⟩, hp, hr, ?_, hb, hf, fun k hk => ⟨(hi k hk).1, ?_⟩, hs⟩
      · show D.2.1 + 1 = nI (D2.1 + 1)
        rw [d1, nI_s1]
      · show ∀ k, k < D2.1 + 1 → rPut 6 D.2.2.2.2.2.2.1 D.2.1 (nuV 0 40 (tkS lt L s) - 20) k = upd D2.2.1 D2.1 (tnV 0 40 (nextM tx L s2) - 20) k ∧ _
        rw [rP d1 hn6 (by decide)]
        exact up_rel (p := fun v => jin v (-20) 20 = true) hw (by rw [z2]) (sub20 z3)
      · obtain ⟨x, hx, ex⟩ := (hi k hk).2
        exact ⟨x, by show x < 2 ^ (D2.1 + 1); rw [Nat.pow_succ]; omega, ex⟩
    · show (if (clR lt L (nuR lt L 0 40 (tkS lt L s))).2.2.2.2.1 = true then clD (nuR lt L 0 40 (tkS lt L s)) D else adDe (clD (nuR lt L 0 40 (tkS lt L s)) D) (nuV 0 40 (tkS lt L s) - 20)).1 = D.1 + 1
      rw [if_neg (by rw [z]; decide), clD_ok z1]
      rfl
  · rw [if_neg c, bne_f c]
    exact ir_wr h
theorem it_be (hl : ∀ k, k < L → lt k = tx k) (hL : L ≤ 150) {s : PSt} {s2 : MSt} {D : ParV} {D2 : SD} (h : TS L s s2) (hd : DR s.2.2.2.2.2.1 s.2.2.2.2.2.2 D D2) : IR2 L s D (beR lt L s D) (if (!decide (6 ≤ nI D2.2.2.2.2.2.2.1)) = true then itB tx L s2 D2 else (wrM s2, D2)) := by
  obtain ⟨⟨d3, d4, ⟨d1, d2⟩⟩, hp, hr, hw, hb, hf, hi, hs⟩ := hd
  unfold beR be1
  rw [may_n d2 d1]
  by_cases c : (!decide (6 ≤ nI D2.2.2.2.2.2.2.1)) = true
  · rw [if_pos c, c, show opR lt L true s = tkS lt L s from rfl]
    have k := ch_1 hl hL 1 60 h
    have hn6 := le6_lt d2 c
    refine ⟨k.1, fun z => ?_⟩
    obtain ⟨z1, z2, z3, z4⟩ := k.2.1 z
    have z : (clR lt L (nuR lt L 1 60 (tkS lt L s))).2.2.2.2.1 = false := z
    refine ⟨?_, ?_, z4⟩
    · show DR (clR lt L (nuR lt L 1 60 (tkS lt L s))).2.2.2.2.2.1 (clR lt L (nuR lt L 1 60 (tkS lt L s))).2.2.2.2.2.2 (if (clR lt L (nuR lt L 1 60 (tkS lt L s))).2.2.2.2.1 = true then clD (nuR lt L 1 60 (tkS lt L s)) D else adBe (clD (nuR lt L 1 60 (tkS lt L s)) D) (nuV 1 60 (tkS lt L s))) (itB tx L s2 D2).2
      rw [k.2.2, if_neg (by rw [z]; decide), clD_ok z1]
      refine ⟨⟨d3, d4, ⟨?_, hn6⟩⟩, hp, hr, hw, hb, hf, hi, ?_⟩
      · show D.2.2.2.1 + 1 = nI (D2.2.2.2.2.2.2.1 + 1)
        rw [d1, nI_s1]
      · show ∀ k, k < D2.2.2.2.2.2.2.1 + 1 → rPut 6 D.2.2.2.2.2.2.2.2.2.2 D.2.2.2.1 (nuV 1 60 (tkS lt L s)) k = upd D2.2.2.2.2.2.2.2.1 D2.2.2.2.2.2.2.1 (tnV 1 60 (nextM tx L s2)) k ∧ _
        rw [rP d1 hn6 (by decide)]
        exact up_rel (p := fun v => jin v 1 60 = true) hs z2 z3
    · show (if (clR lt L (nuR lt L 1 60 (tkS lt L s))).2.2.2.2.1 = true then clD (nuR lt L 1 60 (tkS lt L s)) D else adBe (clD (nuR lt L 1 60 (tkS lt L s)) D) (nuV 1 60 (tkS lt L s))).1 = D.1 + 1
      rw [if_neg (by rw [z]; decide), clD_ok z1]
      rfl
  · rw [if_neg c, bne_f c]
    exact ir_wr h
theorem it_pi (hl : ∀ k, k < L → lt k = tx k) (hL : L ≤ 150) {s : PSt} {s2 : MSt} {D : ParV} {D2 : SD} (h : TS L s s2) (hd : DR s.2.2.2.2.2.1 s.2.2.2.2.2.2 D D2) : IR2 L s D (piR lt L s D) (if (!decide (0 ≤ D2.2.2.2.2.2.2.2.2.1)) = true then itP tx L s2 D2 else (wrM s2, D2)) := by
  obtain ⟨hc, hp, hr, hw, hb, hf, hi, hs⟩ := hd
  have em : (!s.2.2.2.2.2.1) = !decide (0 ≤ D2.2.2.2.2.2.2.2.2.1) := by
    cases q : s.2.2.2.2.2.1
    · rw [(hp.2 q).2]
      decide
    · have j := jin_i (hp.1 q).2
      rw [decide_eq_true (Int32.le_iff_toInt_le.mpr (by have x0 : (0 : Int32).toInt = 0 := rfl; have x10 : (10 : Int32).toInt = 10 := rfl; omega))]
  unfold piR pi1
  rw [em]
  by_cases c : (!decide (0 ≤ D2.2.2.2.2.2.2.2.2.1)) = true
  · rw [if_pos c, c, show opR lt L true s = tkS lt L s from rfl]
    have k := ch_1 hl hL 10 99 h
    refine ⟨k.1, fun z => ?_⟩
    obtain ⟨z1, z2, z3, z4⟩ := k.2.1 z
    have fl := congrArg Prod.snd k.2.2
    rw [clD_ok z1]
    refine ⟨⟨hc, ⟨fun _ => ⟨z2, z3⟩, fun q => absurd (show true = false from q) (by decide)⟩, ?_, hw, hb, hf, hi, hs⟩, rfl, z4⟩
    show ((clR lt L (nuR lt L 10 99 (tkS lt L s))).2.2.2.2.2.2 = true → _) ∧ ((clR lt L (nuR lt L 10 99 (tkS lt L s))).2.2.2.2.2.2 = false → _)
    rw [fl]
    exact hr
  · rw [if_neg c, bne_f c]
    exact ir_wr h
theorem it_ru (hl : ∀ k, k < L → lt k = tx k) (hL : L ≤ 150) {s : PSt} {s2 : MSt} {D : ParV} {D2 : SD} (h : TS L s s2) (hd : DR s.2.2.2.2.2.1 s.2.2.2.2.2.2 D D2) : IR2 L s D (ruR lt L s D) (if (!decide (0 ≤ D2.2.2.2.2.2.2.2.2.2)) = true then itR2 tx L s2 D2 else (wrM s2, D2)) := by
  obtain ⟨hc, hp, hr, hw, hb, hf, hi, hs⟩ := hd
  have em : (!s.2.2.2.2.2.2) = !decide (0 ≤ D2.2.2.2.2.2.2.2.2.2) := by
    cases q : s.2.2.2.2.2.2
    · rw [(hr.2 q).2]
      decide
    · have j := jin_i (hr.1 q).2
      rw [decide_eq_true (Int32.le_iff_toInt_le.mpr j.1)]
  unfold ruR ru1
  rw [em]
  by_cases c : (!decide (0 ≤ D2.2.2.2.2.2.2.2.2.2)) = true
  · rw [if_pos c, c, show opR lt L true s = tkS lt L s from rfl]
    have k := ch_1 hl hL 0 9 h
    refine ⟨k.1, fun z => ?_⟩
    obtain ⟨z1, z2, z3, z4⟩ := k.2.1 z
    have fl := congrArg Prod.fst k.2.2
    rw [clD_ok z1]
    refine ⟨⟨hc, ?_, ⟨fun _ => ⟨z2, z3⟩, fun q => absurd (show true = false from q) (by decide)⟩, hw, hb, hf, hi, hs⟩, rfl, z4⟩
    show ((clR lt L (nuR lt L 0 9 (tkS lt L s))).2.2.2.2.2.1 = true → _) ∧ ((clR lt L (nuR lt L 0 9 (tkS lt L s))).2.2.2.2.2.1 = false → _)
    rw [fl]
    exact hp
  · rw [if_neg c, bne_f c]
    exact ir_wr h
theorem it_ld (hl : ∀ k, k < L → lt k = tx k) (hL : L ≤ 150) {s : PSt} {s2 : MSt} {D : ParV} {D2 : SD} (h : TS L s s2) (hd : DR s.2.2.2.2.2.1 s.2.2.2.2.2.2 D D2) : IR2 L s D (ldR lt L s D) (if (!decide (6 ≤ nI D2.2.2.1)) = true then itL tx L s2 D2 else (wrM s2, D2)) := by
  obtain ⟨⟨⟨d3, d5⟩, ⟨d1, d2⟩, d4⟩, hp, hr, hw, hb, hf, hi, hs⟩ := hd
  unfold ldR ld4 ld3 ld2 ld1
  rw [may_n d2 d1, d3]
  by_cases c : (!decide (6 ≤ nI D2.2.2.1)) = true
  · rw [if_pos c, c, show opR lt L true s = tkS lt L s from rfl]
    have hn6 := le6_lt d2 c
    have t := tk_rel hl hL h
    have u1 := nu_rel hl hL (lo := 1) (hi := 40) t.1
    have u2 := nu_rel hl hL (lo := 0) (hi := 9) u1.1
    have fl2 : (nuR lt L 0 9 (nuR lt L 1 40 (tkS lt L s))).2.2.2.2.2 = s.2.2.2.2.2 := nuR_fl.trans nuR_fl
    have w1 : (nuR lt L 0 9 (nuR lt L 1 40 (tkS lt L s))).2.2.2.2.1 = false → (nuR lt L 1 40 (tkS lt L s)).2.2.2.2.1 = false := fun z => by
      have z2 : okN 0 9 (nuR lt L 1 40 (tkS lt L s)) = true := by
        by_cases q : okN 0 9 (nuR lt L 1 40 (tkS lt L s)) = true
        · exact q
        · unfold nuR at z
          rw [if_neg (by unfold nuR at q; exact q)] at z
          exact absurd (show true = false from z) (by decide)
      have z3 := ((Bool.and_eq_true _ _).mp (show (!(nuR lt L 1 40 (tkS lt L s)).2.2.2.2.1 && (decide ((nuR lt L 1 40 (tkS lt L s)).2.2.1 = 1) && jin (nuR lt L 1 40 (tkS lt L s)).2.2.2.1 0 9)) = true from z2)).1
      cases q : (nuR lt L 1 40 (tkS lt L s)).2.2.2.2.1
      · rfl
      · rw [q] at z3
        cases z3
    have hnuV : (nuR lt L 0 9 (nuR lt L 1 40 (tkS lt L s))).2.2.2.2.1 = false → (nuV 1 40 (tkS lt L s) = tnV 1 40 (nextM tx L s2) ∧ jin (tnV 1 40 (nextM tx L s2)) 1 40 = true) ∧ (nuV 0 9 (nuR lt L 1 40 (tkS lt L s)) = tnV 0 9 (tnS tx L 1 40 (nextM tx L s2)) ∧ jin (tnV 0 9 (tnS tx L 1 40 (nextM tx L s2))) 0 9 = true) := fun z => ⟨u1.2.2 (w1 z), u2.2.2 z⟩
    have adv : s.2.1 ≤ (nuR lt L 0 9 (nuR lt L 1 40 (tkS lt L s))).2.1 := by have := t.2.1; have := u1.2.1; have := u2.2.1; omega
    generalize nuV 1 40 (tkS lt L s) = v1 at hnuV ⊢
    generalize nuV 0 9 (nuR lt L 1 40 (tkS lt L s)) = v2 at hnuV ⊢
    generalize hX : nuR lt L 0 9 (nuR lt L 1 40 (tkS lt L s)) = X at *
    unfold itL rdD
    generalize tnV 1 40 (nextM tx L s2) = b1 at hnuV ⊢
    generalize tnV 0 9 (tnS tx L 1 40 (nextM tx L s2)) = b2 at hnuV ⊢
    generalize tnS tx L 0 9 (tnS tx L 1 40 (nextM tx L s2)) = Y at *
    have tXY := u2.1
    have main : TS L (clR lt L (rdn lt L (nI D2.1) X).2) (closeM tx L (rdM tx L (nI D2.1 - 1) 151 0 Y).2) ∧ (rdn lt L (nI D2.1) X).2.2.2.2.2.2 = s.2.2.2.2.2 ∧ ((clR lt L (rdn lt L (nI D2.1) X).2).2.2.2.2.1 = false → X.2.2.2.2.1 = false ∧ okC (rdn lt L (nI D2.1) X).2 = true ∧ (rdn lt L (nI D2.1) X).1 = (rdM tx L (nI D2.1 - 1) 151 0 Y).1 ∧ (∃ x : Nat, x < 2 ^ D2.1 ∧ (rdM tx L (nI D2.1 - 1) 151 0 Y).1 = nI x) ∧ (¬ (clR lt L (rdn lt L (nI D2.1) X).2).2.2.1 = 0 → s.2.1 < (clR lt L (rdn lt L (nI D2.1) X).2).2.1)) := by
      cases qw : X.2.2.2.2.1
      · have er : rdn lt L (nI D2.1) X = rdnR lt L (nI D2.1) 6 (nI 0) X := by
          unfold rdn
          rw [qw]
          rfl
        have z := rd_rel hl hL d5 6 151 0 X Y (by omega) rfl (Nat.pow_pos (by decide)) tXY qw
        rw [er]
        refine ⟨?_, z.2.2.trans fl2, ?_⟩
        · rcases z.1 with z1 | z1
          · exact (cl_rel hl hL z1.1).1
          · have e1 : clR lt L (rdnR lt L (nI D2.1) 6 (nI 0) X).2 = wrS (rdnR lt L (nI D2.1) 6 (nI 0) X).2 := by
              unfold clR
              rw [if_neg (by rw [z1.2.1]; decide)]
            have e2 : closeM tx L (rdM tx L (nI D2.1 - 1) 151 0 Y).2 = wrM (rdM tx L (nI D2.1 - 1) 151 0 Y).2 := by
              unfold closeM
              exact if_neg (fun q => by rw [show (rdM tx L (nI D2.1 - 1) 151 0 Y).2.2.2.2.2 = true from z1.2.2] at q; exact absurd q.1 (by decide))
            rw [e1, e2]
            have z9 := wr_rel z1.1
            exact z9
        · intro q
          rcases z.1 with z1 | z1
          · have cl := (cl_rel hl hL z1.1).2 q
            exact ⟨rfl, cl.1, z1.2.1, z1.2.2, fun q2 => by have := cl.2 q2; have := z.2.1; omega⟩
          · have e1 : clR lt L (rdnR lt L (nI D2.1) 6 (nI 0) X).2 = wrS (rdnR lt L (nI D2.1) 6 (nI 0) X).2 := by
              unfold clR
              rw [if_neg (by rw [z1.2.1]; decide)]
            rw [e1] at q
            exact absurd (show true = false from q) (by decide)
      · have er : rdn lt L (nI D2.1) X = (0, X) := by
          unfold rdn
          rw [qw]
          rfl
        have hy : Y.2.2.2.2 = true := tXY.2.2.2.1.symm.trans qw
        rw [er, rdM_stop 151 (fun q => by rw [hy] at q; exact absurd q.1 (by decide))]
        refine ⟨(cl_rel hl hL tXY).1, fl2, fun q => ?_⟩
        have e1 := okC_w ((cl_rel hl hL tXY).2 q).1
        rw [qw] at e1
        cases e1
    refine ⟨main.1, fun z => ?_⟩
    have z : (clR lt L (rdn lt L (nI D2.1) X).2).2.2.2.2.1 = false := z
    obtain ⟨m1, m2, m3, m4, m5⟩ := main.2.2 z
    obtain ⟨⟨a1, a2⟩, a3, a4⟩ := hnuV m1
    refine ⟨?_, ?_, m5⟩
    · show DR (clR lt L (rdn lt L (nI D2.1) X).2).2.2.2.2.2.1 (clR lt L (rdn lt L (nI D2.1) X).2).2.2.2.2.2.2 (if (clR lt L (rdn lt L (nI D2.1) X).2).2.2.2.2.1 = true then clD (rdn lt L (nI D2.1) X).2 D else adDd (clD (rdn lt L (nI D2.1) X).2 D) v1 v2 (rdn lt L (nI D2.1) X).1) _
      rw [clR_fl, main.2.1, if_neg (by rw [z]; decide), clD_ok m2]
      refine ⟨⟨⟨d3, d5⟩, ⟨?_, hn6⟩, d4⟩, hp, hr, hw, ?_, ?_, ?_, hs⟩
      · show D.2.2.1 + 1 = nI (D2.2.2.1 + 1)
        rw [d1, nI_s1]
      · show ∀ k, k < D2.2.2.1 + 1 → rPut 6 D.2.2.2.2.2.2.2.1 D.2.2.1 v1 k = upd D2.2.2.2.1 D2.2.2.1 b1 k ∧ _
        rw [rP d1 hn6 (by decide)]
        exact up_rel (p := fun v => jin v 1 40 = true) hb a1 a2
      · show ∀ k, k < D2.2.2.1 + 1 → rPut 6 D.2.2.2.2.2.2.2.2.1 D.2.2.1 v2 k = upd D2.2.2.2.2.1 D2.2.2.1 b2 k ∧ _
        rw [rP d1 hn6 (by decide)]
        exact up_rel (p := fun v => jin v 0 9 = true) hf a3 a4
      · show ∀ k, k < D2.2.2.1 + 1 → rPut 6 D.2.2.2.2.2.2.2.2.2.1 D.2.2.1 (rdn lt L (nI D2.1) X).1 k = upd D2.2.2.2.2.2.1 D2.2.2.1 (rdM tx L (nI D2.1 - 1) 151 0 Y).1 k ∧ _
        rw [rP d1 hn6 (by decide)]
        exact up_rel (p := fun v => ∃ x : Nat, x < 2 ^ D2.1 ∧ v = nI x) hi m3 m4
    · show (if (clR lt L (rdn lt L (nI D2.1) X).2).2.2.2.2.1 = true then clD (rdn lt L (nI D2.1) X).2 D else adDd (clD (rdn lt L (nI D2.1) X).2 D) v1 v2 (rdn lt L (nI D2.1) X).1).1 = D.1 + 1
      rw [if_neg (by rw [z]; decide), clD_ok m2]
      rfl
  · rw [if_neg c, bne_f c]
    exact ir_wr h
theorem it_rel (hl : ∀ k, k < L → lt k = tx k) (hL : L ≤ 150) {s : PSt} {s2 : MSt} {D : ParV} {D2 : SD} (h : TS L s s2) (ht : ¬ s.2.2.1 = 0) (hd : DR s.2.2.2.2.2.1 s.2.2.2.2.2.2 D D2) : IR2 L s D (itR lt L s D) (itM tx L s2 D2) := by
  have oth : (s.2.2.1 = 1 ∨ s.2.2.1 = 2 ∨ s.2.2.1 = 59) → ¬ s2.2.2.1 = 1 → IR2 L s D (itR lt L s D) (itM tx L s2 D2) := fun q1 q2 => by
    have e1 : itR lt L s D = (wrS s, D) := by
      unfold itR
      rcases q1 with q | q | q
      · rw [q, if_neg (by decide), if_neg (by decide), if_neg (by decide), if_neg (by decide), if_neg (by decide)]
      · rw [q, if_neg (by decide), if_neg (by decide), if_neg (by decide), if_neg (by decide), if_neg (by decide)]
      · rw [q, if_neg (by decide), if_neg (by decide), if_neg (by decide), if_neg (by decide), if_neg (by decide)]
    have e2 : itM tx L s2 D2 = (wrM s2, D2) := by
      unfold itM
      rw [if_neg (fun z => q2 z.1)]
    rw [e1, e2]
    exact ir_wr h
  rcases h.2.2.2.2 with ⟨a, b⟩ | ⟨a, b, c, _⟩ | ⟨a, b⟩ | ⟨a, b⟩ | ⟨b, a, c⟩
  · exact absurd a ht
  · exact oth (Or.inl a) (by rw [b]; decide)
  · exact oth (Or.inr (Or.inl a)) (by rw [b]; decide)
  · exact oth (Or.inr (Or.inr a)) (by rw [b]; decide)
  · have em : ∀ (q : Bool) (X : MSt × SD), mbD s2.2.2.2.1 D2 = q → (if s2.2.2.1 = 1 ∧ mbD s2.2.2.2.1 D2 = true then X else (wrM s2, D2)) = (if q = true then X else (wrM s2, D2)) := fun q X e => by
      rw [e]
      by_cases c : q = true
      · rw [if_pos c, if_pos ⟨b, c⟩]
      · rw [if_neg c, if_neg (fun z => c z.2)]
    unfold itR itM
    rw [a]
    rcases c with c | c | c | c | c
    · rw [em (!decide (6 ≤ nI D2.1)) _ (by rw [c]; rfl), c, if_neg (show ¬ (100 : Int32) = 98 by decide), if_pos (show (100 : Int32) = 100 from rfl), if_neg (show ¬ (100 : Int32) = 98 by decide), if_pos (show (100 : Int32) = 100 from rfl)]
      exact it_de hl hL h hd
    · rw [em (!decide (6 ≤ nI D2.2.2.1)) _ (by rw [c]; rfl), c, if_neg (show ¬ (108 : Int32) = 98 by decide), if_neg (show ¬ (108 : Int32) = 100 by decide), if_pos (show (108 : Int32) = 108 from rfl), if_neg (show ¬ (108 : Int32) = 98 by decide), if_neg (show ¬ (108 : Int32) = 100 by decide), if_pos (show (108 : Int32) = 108 from rfl)]
      exact it_ld hl hL h hd
    · rw [em (!decide (6 ≤ nI D2.2.2.2.2.2.2.1)) _ (by rw [c]; rfl), c, if_pos (show (98 : Int32) = 98 from rfl), if_pos (show (98 : Int32) = 98 from rfl)]
      exact it_be hl hL h hd
    · rw [em (!decide (0 ≤ D2.2.2.2.2.2.2.2.2.1)) _ (by rw [c]; rfl), c, if_neg (show ¬ (112 : Int32) = 98 by decide), if_neg (show ¬ (112 : Int32) = 100 by decide), if_neg (show ¬ (112 : Int32) = 108 by decide), if_pos (show (112 : Int32) = 112 from rfl), if_neg (show ¬ (112 : Int32) = 98 by decide), if_neg (show ¬ (112 : Int32) = 100 by decide), if_neg (show ¬ (112 : Int32) = 108 by decide), if_pos (show (112 : Int32) = 112 from rfl)]
      exact it_pi hl hL h hd
    · rw [em (!decide (0 ≤ D2.2.2.2.2.2.2.2.2.2)) _ (by rw [c]; rfl), c, if_neg (show ¬ (114 : Int32) = 98 by decide), if_neg (show ¬ (114 : Int32) = 100 by decide), if_neg (show ¬ (114 : Int32) = 108 by decide), if_neg (show ¬ (114 : Int32) = 112 by decide), if_pos (show (114 : Int32) = 114 from rfl), if_neg (show ¬ (114 : Int32) = 98 by decide), if_neg (show ¬ (114 : Int32) = 100 by decide), if_neg (show ¬ (114 : Int32) = 108 by decide), if_neg (show ¬ (114 : Int32) = 112 by decide)]
      exact it_ru hl hL h hd
theorem tk_0 {tk vl tk2 nu : Int32} (h : TKR tk vl tk2 nu) : tk = 0 ↔ tk2 = 0 := by
  rcases h with ⟨a, b⟩ | ⟨a, b, c, _⟩ | ⟨a, b⟩ | ⟨a, b⟩ | ⟨b, a, c⟩
  · rw [a, b]
  · rw [a, b]; decide
  · rw [a, b]; decide
  · rw [a, b]; decide
  · rw [a, b]
    rcases c with c | c | c | c | c <;> rw [c] <;> decide
theorem gl_rel (hl : ∀ k, k < L → lt k = tx k) (hL : L ≤ 150) : ∀ (m : Nat) (s : PSt) (s2 : MSt) (D : ParV) (D2 : SD) (i : Int32), TS L s s2 → (s.2.2.2.2.1 = false → DR s.2.2.2.2.2.1 s.2.2.2.2.2.2 D D2 ∧ D.1 = i) → (s.2.2.2.2.1 = true ∨ s.2.2.1 = 0 ∨ L < s.2.1 + m) → TS L (rlR lt L m s D).1 (glM tx L (m + 1) i s2 D2).2.1 ∧ ((rlR lt L m s D).1.2.2.2.2.1 = false → ∃ pf rf : Bool, DR pf rf (rlR lt L m s D).2 (glM tx L (m + 1) i s2 D2).2.2 ∧ (rlR lt L m s D).2.1 = (glM tx L (m + 1) i s2 D2).1)
  | 0, s, s2, D, D2, i, h, hd, hm => by
    have e : glM tx L (0 + 1) i s2 D2 = (i, s2, D2) := by
      unfold glM
      by_cases c : s2.2.2.1 = 0
      · rw [if_pos c]
      · rw [if_neg c]
        have hw : s.2.2.2.2.1 = true := by
          rcases hm with q | q | q
          · exact q
          · exact absurd ((tk_0 h.2.2.2.2).mp q) c
          · exact absurd q (by have := h.2.2.1; omega)
        rw [if_pos (h.2.2.2.1.symm.trans hw)]
    rw [e]
    exact ⟨h, fun z => ⟨_, _, (hd z).1, (hd z).2⟩⟩
  | m + 1, s, s2, D, D2, i, h, hd, hm => by
    by_cases c : (s.2.2.2.2.1 || decide (s.2.2.1 = 0)) = true
    · have e1 : rlR lt L (m + 1) s D = (s, D) := by
        show (if (s.2.2.2.2.1 || decide (s.2.2.1 = 0)) = true then (s, D) else _) = _
        rw [if_pos c]
      have e2 : glM tx L (m + 1 + 1) i s2 D2 = (i, s2, D2) := by
        show (if s2.2.2.1 = 0 then (i, s2, D2) else if s2.2.2.2.2 = true then (i, s2, D2) else _) = _
        by_cases c2 : s2.2.2.1 = 0
        · rw [if_pos c2]
        · rw [if_neg c2]
          have hw : s.2.2.2.2.1 = true := by
            rcases (Bool.or_eq_true _ _).mp c with q | q
            · exact q
            · exact absurd ((tk_0 h.2.2.2.2).mp (of_decide_eq_true q)) c2
          rw [if_pos (h.2.2.2.1.symm.trans hw)]
      rw [e1, e2]
      exact ⟨h, fun z => ⟨_, _, (hd z).1, (hd z).2⟩⟩
    · have hw : s.2.2.2.2.1 = false := by
        cases q : s.2.2.2.2.1
        · rfl
        · exact absurd (by rw [q]; rfl) c
      have ht : ¬ s.2.2.1 = 0 := fun q => c (by rw [decide_eq_true q, Bool.or_true])
      have e1 : rlR lt L (m + 1) s D = rlR lt L m (itR lt L s D).1 (itR lt L s D).2 := by
        show (if (s.2.2.2.2.1 || decide (s.2.2.1 = 0)) = true then (s, D) else _) = _
        rw [if_neg c]
      have e2 : glM tx L (m + 1 + 1) i s2 D2 = glM tx L (m + 1) (i + 1) (itM tx L s2 D2).1 (itM tx L s2 D2).2 := by
        show (if s2.2.2.1 = 0 then (i, s2, D2) else if s2.2.2.2.2 = true then (i, s2, D2) else _) = _
        rw [if_neg (fun q => ht ((tk_0 h.2.2.2.2).mpr q)), if_neg (by rw [← h.2.2.2.1, hw]; decide)]
      rw [e1, e2]
      have z := it_rel hl hL h ht (hd hw).1
      refine gl_rel hl hL m _ _ _ _ (i + 1) z.1 (fun q => ⟨(z.2 q).1, by rw [(z.2 q).2.1, (hd hw).2]⟩) ?_
      cases q : (itR lt L s D).1.2.2.2.2.1
      · by_cases q2 : (itR lt L s D).1.2.2.1 = 0
        · exact Or.inr (Or.inl q2)
        · have := (z.2 q).2.2 q2
          refine Or.inr (Or.inr ?_)
          rcases hm with r | r | r
          · rw [hw] at r; cases r
          · exact absurd r ht
          · omega
      · exact Or.inl rfl
theorem ga_rel (hl : ∀ k, k < L → lt k = tx k) (hL : L ≤ 150) {v : Int32} {D : ParV} {swt sbx sfl sdi sst : Fn} : TS L (rdF lt L v D).1 (gaM tx L swt sbx sfl sdi sst).2.1 ∧ ((rdF lt L v D).1.2.2.2.2.1 = false → ∃ pf rf : Bool, DR pf rf (rdF lt L v D).2 (gaM tx L swt sbx sfl sdi sst).2.2 ∧ (rdF lt L v D).2.1 = (gaM tx L swt sbx sfl sdi sst).1) := by
  have h0 : TS L (0, 0, 0, v, false, false, false) (0, 0, 0, 0, false) := ⟨rfl, rfl, Nat.zero_le _, rfl, Or.inl ⟨rfl, rfl⟩⟩
  have t := tk_rel hl hL h0
  refine gl_rel hl hL 150 _ _ _ _ 0 t.1 (fun _ => ⟨?_, rfl⟩) ?_
  · exact ⟨⟨⟨rfl, Nat.zero_le 6⟩, ⟨rfl, Nat.zero_le 6⟩, ⟨rfl, Nat.zero_le 6⟩⟩, ⟨fun q => absurd (show false = true from q) (by decide), fun _ => ⟨rfl, rfl⟩⟩, ⟨fun q => absurd (show false = true from q) (by decide), fun _ => ⟨rfl, rfl⟩⟩, fun k hk => absurd hk (Nat.not_lt_zero k), fun k hk => absurd hk (Nat.not_lt_zero k), fun k hk => absurd hk (Nat.not_lt_zero k), fun k hk => absurd hk (Nat.not_lt_zero k), fun k hk => absurd hk (Nat.not_lt_zero k)⟩
  · by_cases q : (tkS lt L (0, 0, 0, v, false, false, false)).2.2.1 = 0
    · exact Or.inr (Or.inl q)
    · have := t.2.2 q
      have z : 0 < (tkS lt L (0, 0, 0, v, false, false, false)).2.1 := this
      exact Or.inr (Or.inr (by omega))
end
section
variable {g : GG} {scr : AC} {lt : Fn} {lc : Int32} {rd : RdV} {sw : Bool} {P : ParV} {D : ParV} {S : ScV} {kk : Int32} {nx : Int32} {ring : Nat → ScV} {bu : Fn} {im : Nat → ScV} {kept : Int32} {tb : Fn} {tr : Fn} {tc : Int32} {ts : Int64} {de : Int32} {we : Fn} {da : Int32} {bo : Fn} {be : Int32} {sg : Fn} {pi : Int32} {ru : Int32} {st : Fn} {wa : Fn} {kn : Int32} {mi : Fn} {ik : Nat → Bool} {tm : Int32} {to : Fn} {mr : Int64} {tx : Fn} {tn : Int32} {cu : Int32} {sa : Int32} {tk : Int32} {nu : Int32} {wr : Bool} {it : Int32} {sd : Int32} {swt : Fn} {sdd : Int32} {sbx : Fn} {sfl : Fn} {sdi : Fn} {sb : Int32} {sst : Fn} {sp : Int32} {sr : Int32} {nw : Fn} {od : Fn} {bs : Fn}
theorem stp_0 {f sfl sdi : Fn} {n : Nat} {x : Int32} {t : Nat} (ht : t < 3) : stP (nil3 f x) sfl sdi n 6 t = if t = 2 then x else 0 := by
  unfold stP nil3 upd
  rw [if_neg (by omega), if_neg (by omega), if_neg (by omega)]
  by_cases c : t = 2
  · rw [if_pos c, if_pos c]
  · rw [if_neg c, if_neg c]
    by_cases c1 : t = 1
    · rw [if_pos c1]
    · rw [if_neg c1, if_pos (by omega)]
theorem stp_3 {f sfl sdi : Fn} {n k : Nat} (hn : n ≤ 6) (hk : k < n) : stP f sfl sdi n 6 (3 + k) = sfl k ∧ stP f sfl sdi n 6 (9 + k) = sdi k ∧ stP f sfl sdi n 6 (15 + k) = -9 := by
  unfold stP
  refine ⟨?_, ?_, ?_⟩
  · rw [if_pos (by omega), show 3 + k - 3 = k by omega]
  · rw [if_neg (by omega), if_pos (by omega), show 9 + k - 9 = k by omega, if_pos hk]
  · rw [if_neg (by omega), if_neg (by omega), if_pos (by omega)]
theorem mix_in {f f2 : Fn} {m k : Nat} (hm : m ≤ 6) (hk : k < m) : mix f f2 6 k = f2 k := if_pos (by omega)
theorem dr_pi {pf rf : Bool} {D : ParV} {D2 : SD} (h : DR pf rf D D2) : D.2.2.2.2.1 = (if D2.2.2.2.2.2.2.2.2.1 < 0 then 80 else D2.2.2.2.2.2.2.2.2.1) ∧ jin (if D2.2.2.2.2.2.2.2.2.1 < 0 then 80 else D2.2.2.2.2.2.2.2.2.1) 10 99 = true := by
  obtain ⟨_, ⟨h1, h2⟩, _⟩ := h
  cases pf
  · obtain ⟨a, b⟩ := h2 rfl
    rw [a, b, if_pos (show (-1 : Int32) < 0 by decide)]
    exact ⟨rfl, by decide⟩
  · obtain ⟨a, b⟩ := h1 rfl
    have j := jin_i b
    have x0 : (0 : Int32).toInt = 0 := rfl
    have x10 : (10 : Int32).toInt = 10 := rfl
    rw [if_neg (fun z => absurd (Int32.lt_iff_toInt_lt.mp z) (by omega))]
    exact ⟨a, b⟩
theorem dr_ru {pf rf : Bool} {D : ParV} {D2 : SD} (h : DR pf rf D D2) : D.2.2.2.2.2.1 = (if D2.2.2.2.2.2.2.2.2.2 < 0 then 2 else D2.2.2.2.2.2.2.2.2.2) ∧ jin (if D2.2.2.2.2.2.2.2.2.2 < 0 then 2 else D2.2.2.2.2.2.2.2.2.2) 0 9 = true := by
  obtain ⟨_, _, ⟨h1, h2⟩, _⟩ := h
  cases rf
  · obtain ⟨a, b⟩ := h2 rfl
    rw [a, b, if_pos (show (-1 : Int32) < 0 by decide)]
    exact ⟨rfl, by decide⟩
  · obtain ⟨a, b⟩ := h1 rfl
    have j := jin_i b
    rw [if_neg (fun z => absurd (Int32.lt_iff_toInt_lt.mp z) (by omega))]
    exact ⟨a, b⟩
theorem PR_gate {pf rf : Bool} {D : ParV} {D2 : SD} (h : DR pf rf D D2) : PR D2.2.2.1 D2.1 D2.2.2.2.2.2.2.1 D (nI D2.1) (mix we D2.2.1 6) (nI D2.2.2.1) (mix bo D2.2.2.2.1 6) (nI D2.2.2.2.2.2.2.1) (mix sg D2.2.2.2.2.2.2.2.1 6) (if D2.2.2.2.2.2.2.2.2.1 < 0 then 80 else D2.2.2.2.2.2.2.2.2.1) (if D2.2.2.2.2.2.2.2.2.2 < 0 then 2 else D2.2.2.2.2.2.2.2.2.2) := by
  have p1 := dr_pi h
  have p2 := dr_ru h
  obtain ⟨⟨⟨d1, d2⟩, ⟨d3, d4⟩, ⟨d5, d6⟩⟩, _, _, hw, hb, hf, hi, hs⟩ := h
  refine ⟨⟨d1, rfl⟩, ⟨d3, rfl⟩, ⟨d5, rfl⟩, p1.1, p2.1, fun k hk => ?_, fun k hk => ?_, fun k hk => ?_, p1.2⟩
  · rw [mix_in d2 hk]
    exact hw k hk
  · rw [mix_in d4 hk]
    exact hb k hk
  · rw [mix_in d6 hk]
    exact hs k hk
theorem SR_gate {pf rf : Bool} {D : ParV} {D2 : SD} (h : DR pf rf D D2) : SR D2.2.2.1 D2.1 (if D2.2.2.2.2.2.2.2.2.1 < 0 then 80 else D2.2.2.2.2.2.2.2.2.1) (0, 0, D.2.2.2.2.2.1, D.2.2.2.2.2.2.2.2.1, D.2.2.2.2.2.2.2.2.2.1, fun _ => -9) (stP (nil3 st (if D2.2.2.2.2.2.2.2.2.2 < 0 then 2 else D2.2.2.2.2.2.2.2.2.2)) D2.2.2.2.2.1 D2.2.2.2.2.2.1 D2.2.2.1 6) := by
  have p1 := dr_pi h
  have p2 := dr_ru h
  obtain ⟨⟨⟨d1, d2⟩, ⟨d3, d4⟩, ⟨d5, d6⟩⟩, _, _, hw, hb, hf, hi, hs⟩ := h
  have j := jin_i p1.2
  have x0 : (0 : Int32).toInt = 0 := rfl
  have x10 : (10 : Int32).toInt = 10 := rfl
  unfold SR
  rw [stp_0 (t := 0) (by omega), stp_0 (t := 1) (by omega), stp_0 (t := 2) (by omega), if_neg (show ¬ 0 = 2 by omega), if_neg (show ¬ 1 = 2 by omega), if_pos (show 2 = 2 from rfl)]
  refine ⟨⟨rfl, rfl, p2.1⟩, fun k hk => ?_, jin_of (by omega) (by omega), by decide, p2.2⟩
  obtain ⟨e1, e2, e3⟩ := stp_3 (f := nil3 st (if D2.2.2.2.2.2.2.2.2.2 < 0 then 2 else D2.2.2.2.2.2.2.2.2.2)) (sfl := D2.2.2.2.2.1) (sdi := D2.2.2.2.2.2.1) d4 hk
  rw [e1, e2, e3]
  exact ⟨(hf k hk).1, (hi k hk).1, rfl, (hi k hk).2, (hf k hk).2⟩
theorem ir0 {n ne c : Nat} (hc : c < 2) : tbit 0 (nI c) = updB (updB ik 0 false) 1 false c ∧ (updB (updB ik 0 false) 1 false c = true → SR n ne pi (im c) (fun t => mi (21 * c + t))) := by
  rcases (show c = 0 ∨ c = 1 by omega) with rfl | rfl
  · have e : updB (updB ik 0 false) 1 false 0 = false := rfl
    rw [e]
    exact ⟨by decide, fun z => by cases z⟩
  · have e : updB (updB ik 0 false) 1 false 1 = false := rfl
    rw [e]
    exact ⟨by decide, fun z => by cases z⟩
set_option maxRecDepth 20000 in
set_option maxHeartbeats 4000000 in
theorem p_gate  (hR : RelB lt lc P S kk nx ring im kept tb tr tc ts de we da bo be sg pi ru st wa kn mi ik tm to mr tx tn) : Pair g scr mX6_gate mX7_gate [] (W2 (W1 scr [] lt lc rd sw P D S kk nx ring bu im kept tb tr tc ts) de we da bo be sg pi ru st wa kn mi ik tm to mr tx tn cu sa tk nu wr it sd swt sdd sbx sfl sdi sb sst sp sr nw od bs) := by
  have hR0 := hR
  obtain ⟨n, ne, nb, nt, L, q, j, hN, hP, hS, hH, hI, hT, hL, ht⟩ := hR
  have hl : ∀ k, k < L → lt k = tx k := fun k hk => (hL.2.2 k hk).1
  have hL150 := hN.2.2.2.2.1
  have hx : ∀ k, k < L → 0 ≤ tx k := fun k hk => Int32.le_iff_toInt_le.mpr (jin_i (hL.2.2 k hk).2).1
  have ga := ga_rel (v := rd.2.2.2.2.1) (D := D) (swt := swt) (sbx := sbx) (sfl := sfl) (sdi := sdi) (sst := sst) hl hL150
  cases hw : (rdF lt L rd.2.2.2.2.1 D).1.2.2.2.2.1
  · have hw2 : (gaM tx L swt sbx sfl sdi sst).2.1.2.2.2.2 = false := ga.1.2.2.2.1.symm.trans hw
    obtain ⟨pf, rf, hd, hc⟩ := ga.2 hw
    exact pairJ (show ∀ tl : List AC, CD g 20 mX6_gate [.ref 1] (W1 scr tl lt lc rd sw P D S kk nx ring bu im kept tb tr tc ts) (some (.int (gaM tx L swt sbx sfl sdi sst).1)) (W1 scr tl lt (0) (rdOf L (rdF lt L rd.2.2.2.2.1 D).1) (!sw) ((rdF lt L rd.2.2.2.2.1 D).2) (P) (0, 0, (rdF lt L rd.2.2.2.2.1 D).2.2.2.2.2.2.1, (rdF lt L rd.2.2.2.2.1 D).2.2.2.2.2.2.2.2.2.1, (rdF lt L rd.2.2.2.2.1 D).2.2.2.2.2.2.2.2.2.2.1, fun _ => -9) (0) nx ring bu im (0) tb tr (0) ts) from fun tl => C.deeper (by decide) (show C g 6 _ _ _ _ _ _ from by rw [hL.1]; exact x_gate2 hL150 hw (by rw [hc]; exact ⟨rfl, rfl⟩))) (fun pre h2 => ∃ (cu9 : Int32) (sa9 : Int32) (tk9 : Int32) (nu9 : Int32) (wr9 : Bool) (it9 : Int32) (sd9 : Int32) (swt9 : Fn) (sdd9 : Int32) (sbx9 : Fn) (sfl9 : Fn) (sdi9 : Fn) (sb9 : Int32) (sst9 : Fn) (sp9 : Int32) (sr9 : Int32), h2 = (W2 pre (nI (gaM tx L swt sbx sfl sdi sst).2.2.1) (mix we (gaM tx L swt sbx sfl sdi sst).2.2.2.1 6) (nI (gaM tx L swt sbx sfl sdi sst).2.2.2.2.1) (mix bo (gaM tx L swt sbx sfl sdi sst).2.2.2.2.2.1 6) (nI (gaM tx L swt sbx sfl sdi sst).2.2.2.2.2.2.2.2.1) (mix sg (gaM tx L swt sbx sfl sdi sst).2.2.2.2.2.2.2.2.2.1 6) ((if (gaM tx L swt sbx sfl sdi sst).2.2.2.2.2.2.2.2.2.2.1 < 0 then 80 else (gaM tx L swt sbx sfl sdi sst).2.2.2.2.2.2.2.2.2.2.1)) ((if (gaM tx L swt sbx sfl sdi sst).2.2.2.2.2.2.2.2.2.2.2 < 0 then 2 else (gaM tx L swt sbx sfl sdi sst).2.2.2.2.2.2.2.2.2.2.2)) (stP (nil3 st (if (gaM tx L swt sbx sfl sdi sst).2.2.2.2.2.2.2.2.2.2.2 < 0 then 2 else (gaM tx L swt sbx sfl sdi sst).2.2.2.2.2.2.2.2.2.2.2)) (gaM tx L swt sbx sfl sdi sst).2.2.2.2.2.2.1 (gaM tx L swt sbx sfl sdi sst).2.2.2.2.2.2.2.1 (gaM tx L swt sbx sfl sdi sst).2.2.2.2.1 6) wa (0) mi (updB (updB ik 0 false) 1 false) (0) to mr tx (0) (cu9) (sa9) (tk9) (nu9) (wr9) (it9) (sd9) (swt9) (sdd9) (sbx9) (sfl9) (sdi9) (sb9) (sst9) (sp9) (sr9) nw od bs)) (show ∀ pre : List AC, pre.length = 129 → C g 20 0 0 mX7_gate [.ref 129] (W2 pre de we da bo be sg pi ru st wa kn mi ik tm to mr tx tn cu sa tk nu wr it sd swt sdd sbx sfl sdi sb sst sp sr nw od bs) (fun r h2 => r = some (.int (gaM tx L swt sbx sfl sdi sst).1) ∧ ∃ (cu9 : Int32) (sa9 : Int32) (tk9 : Int32) (nu9 : Int32) (wr9 : Bool) (it9 : Int32) (sd9 : Int32) (swt9 : Fn) (sdd9 : Int32) (sbx9 : Fn) (sfl9 : Fn) (sdi9 : Fn) (sb9 : Int32) (sst9 : Fn) (sp9 : Int32) (sr9 : Int32), h2 = (W2 pre (nI (gaM tx L swt sbx sfl sdi sst).2.2.1) (mix we (gaM tx L swt sbx sfl sdi sst).2.2.2.1 6) (nI (gaM tx L swt sbx sfl sdi sst).2.2.2.2.1) (mix bo (gaM tx L swt sbx sfl sdi sst).2.2.2.2.2.1 6) (nI (gaM tx L swt sbx sfl sdi sst).2.2.2.2.2.2.2.2.1) (mix sg (gaM tx L swt sbx sfl sdi sst).2.2.2.2.2.2.2.2.2.1 6) ((if (gaM tx L swt sbx sfl sdi sst).2.2.2.2.2.2.2.2.2.2.1 < 0 then 80 else (gaM tx L swt sbx sfl sdi sst).2.2.2.2.2.2.2.2.2.2.1)) ((if (gaM tx L swt sbx sfl sdi sst).2.2.2.2.2.2.2.2.2.2.2 < 0 then 2 else (gaM tx L swt sbx sfl sdi sst).2.2.2.2.2.2.2.2.2.2.2)) (stP (nil3 st (if (gaM tx L swt sbx sfl sdi sst).2.2.2.2.2.2.2.2.2.2.2 < 0 then 2 else (gaM tx L swt sbx sfl sdi sst).2.2.2.2.2.2.2.2.2.2.2)) (gaM tx L swt sbx sfl sdi sst).2.2.2.2.2.2.1 (gaM tx L swt sbx sfl sdi sst).2.2.2.2.2.2.2.1 (gaM tx L swt sbx sfl sdi sst).2.2.2.2.1 6) wa (0) mi (updB (updB ik 0 false) 1 false) (0) to mr tx (0) (cu9) (sa9) (tk9) (nu9) (wr9) (it9) (sd9) (swt9) (sdd9) (sbx9) (sfl9) (sdi9) (sb9) (sst9) (sp9) (sr9) nw od bs)) from fun pre hp => C.deeper (by decide) (m_gate hp hL.2.1 hL150 hx (fun z => (no_f z hw2).elim) (fun _ => ⟨rfl, _, _, _, _, _, _, _, _, _, _, _, _, _, _, _, _, rfl⟩))) (fun pre h2 q9 => by
      obtain ⟨cu9, sa9, tk9, nu9, wr9, it9, sd9, swt9, sdd9, sbx9, sfl9, sdi9, sb9, sst9, sp9, sr9, q9⟩ := q9
      exact ⟨_, _, _, _, _, _, _, _, _, _, _, _, _, _, _, _, _, _, _, _, _, _, _, _, _, _, _, _, _, _, _, _, _, _, _, _, _, (show RelB lt (0) ((rdF lt L rd.2.2.2.2.1 D).2) (0, 0, (rdF lt L rd.2.2.2.2.1 D).2.2.2.2.2.2.1, (rdF lt L rd.2.2.2.2.1 D).2.2.2.2.2.2.2.2.2.1, (rdF lt L rd.2.2.2.2.1 D).2.2.2.2.2.2.2.2.2.2.1, fun _ => -9) (0) nx ring im (0) tb tr (0) ts (nI (gaM tx L swt sbx sfl sdi sst).2.2.1) (mix we (gaM tx L swt sbx sfl sdi sst).2.2.2.1 6) (nI (gaM tx L swt sbx sfl sdi sst).2.2.2.2.1) (mix bo (gaM tx L swt sbx sfl sdi sst).2.2.2.2.2.1 6) (nI (gaM tx L swt sbx sfl sdi sst).2.2.2.2.2.2.2.2.1) (mix sg (gaM tx L swt sbx sfl sdi sst).2.2.2.2.2.2.2.2.2.1 6) ((if (gaM tx L swt sbx sfl sdi sst).2.2.2.2.2.2.2.2.2.2.1 < 0 then 80 else (gaM tx L swt sbx sfl sdi sst).2.2.2.2.2.2.2.2.2.2.1)) ((if (gaM tx L swt sbx sfl sdi sst).2.2.2.2.2.2.2.2.2.2.2 < 0 then 2 else (gaM tx L swt sbx sfl sdi sst).2.2.2.2.2.2.2.2.2.2.2)) (stP (nil3 st (if (gaM tx L swt sbx sfl sdi sst).2.2.2.2.2.2.2.2.2.2.2 < 0 then 2 else (gaM tx L swt sbx sfl sdi sst).2.2.2.2.2.2.2.2.2.2.2)) (gaM tx L swt sbx sfl sdi sst).2.2.2.2.2.2.1 (gaM tx L swt sbx sfl sdi sst).2.2.2.2.2.2.2.1 (gaM tx L swt sbx sfl sdi sst).2.2.2.2.1 6) wa (0) mi (updB (updB ik 0 false) 1 false) (0) to mr tx (0) from ⟨(gaM tx L swt sbx sfl sdi sst).2.2.2.2.1, (gaM tx L swt sbx sfl sdi sst).2.2.1, (gaM tx L swt sbx sfl sdi sst).2.2.2.2.2.2.2.2.1, 0, 0, 0, j, ⟨hd.1.2.1.2, hd.1.1.2, hd.1.2.2.2, by omega, by omega, by omega, hN.2.2.2.2.2.2⟩, PR_gate hd, SR_gate hd, ⟨rfl, rfl, hH.2.2.1, fun i hi => absurd hi (Nat.not_lt_zero i)⟩, ⟨⟨0, by decide, rfl⟩, fun c hc2 => ir0 hc2⟩, ⟨rfl, rfl, fun k hk => absurd hk (Nat.not_lt_zero k)⟩, ⟨rfl, rfl, fun k hk => absurd hk (Nat.not_lt_zero k)⟩, ht⟩), q9⟩)
  · have hw2 : (gaM tx L swt sbx sfl sdi sst).2.1.2.2.2.2 = true := ga.1.2.2.2.1.symm.trans hw
    exact pairJ (show ∀ tl : List AC, CD g 20 mX6_gate [.ref 1] (W1 scr tl lt lc rd sw P D S kk nx ring bu im kept tb tr tc ts) (some (.int (-10 - nI (gaM tx L swt sbx sfl sdi sst).2.1.2.1))) (W1 scr tl lt lc (rdOf L (rdF lt L rd.2.2.2.2.1 D).1) sw P ((rdF lt L rd.2.2.2.2.1 D).2) S kk nx ring bu im kept tb tr tc ts) from fun tl => C.deeper (by decide) (show C g 6 _ _ _ _ _ _ from by rw [hL.1]; exact x_gate1 hL150 hw (by rw [ga.1.1]; exact ⟨rfl, rfl⟩))) (fun pre h2 => ∃ (cu9 : Int32) (sa9 : Int32) (tk9 : Int32) (nu9 : Int32) (wr9 : Bool) (it9 : Int32) (sd9 : Int32) (swt9 : Fn) (sdd9 : Int32) (sbx9 : Fn) (sfl9 : Fn) (sdi9 : Fn) (sb9 : Int32) (sst9 : Fn) (sp9 : Int32) (sr9 : Int32), h2 = (W2 pre de we da bo be sg pi ru st wa kn mi ik tm to mr tx tn (cu9) (sa9) (tk9) (nu9) (wr9) (it9) (sd9) (swt9) (sdd9) (sbx9) (sfl9) (sdi9) (sb9) (sst9) (sp9) (sr9) nw od bs)) (show ∀ pre : List AC, pre.length = 129 → C g 20 0 0 mX7_gate [.ref 129] (W2 pre de we da bo be sg pi ru st wa kn mi ik tm to mr tx tn cu sa tk nu wr it sd swt sdd sbx sfl sdi sb sst sp sr nw od bs) (fun r h2 => r = some (.int (-10 - nI (gaM tx L swt sbx sfl sdi sst).2.1.2.1)) ∧ ∃ (cu9 : Int32) (sa9 : Int32) (tk9 : Int32) (nu9 : Int32) (wr9 : Bool) (it9 : Int32) (sd9 : Int32) (swt9 : Fn) (sdd9 : Int32) (sbx9 : Fn) (sfl9 : Fn) (sdi9 : Fn) (sb9 : Int32) (sst9 : Fn) (sp9 : Int32) (sr9 : Int32), h2 = (W2 pre de we da bo be sg pi ru st wa kn mi ik tm to mr tx tn (cu9) (sa9) (tk9) (nu9) (wr9) (it9) (sd9) (swt9) (sdd9) (sbx9) (sfl9) (sdi9) (sb9) (sst9) (sp9) (sr9) nw od bs)) from fun pre hp => C.deeper (by decide) (m_gate hp hL.2.1 hL150 hx (fun _ => ⟨rfl, _, _, _, _, _, _, _, _, _, _, _, _, _, _, _, _, rfl⟩) (fun z => (no_f hw2 z).elim))) (fun pre h2 q9 => by
      obtain ⟨cu9, sa9, tk9, nu9, wr9, it9, sd9, swt9, sdd9, sbx9, sfl9, sdi9, sb9, sst9, sp9, sr9, q9⟩ := q9
      exact ⟨_, _, _, _, _, _, _, _, _, _, _, _, _, _, _, _, _, _, _, _, _, _, _, _, _, _, _, _, _, _, _, _, _, _, _, _, _, (show RelB lt lc P S kk nx ring im kept tb tr tc ts de we da bo be sg pi ru st wa kn mi ik tm to mr tx tn from hR0), q9⟩)
end

/-! the order: both sides against the numbers -/
section
variable {g : GG} {scr : AC} {lt : Fn} {lc : Int32} {rd : RdV} {sw : Bool} {P : ParV} {D : ParV} {S : ScV} {kk : Int32} {nx : Int32} {ring : Nat → ScV} {bu : Fn} {im : Nat → ScV} {kept : Int32} {tb : Fn} {tr : Fn} {tc : Int32} {ts : Int64} {de : Int32} {we : Fn} {da : Int32} {bo : Fn} {be : Int32} {sg : Fn} {pi : Int32} {ru : Int32} {st : Fn} {wa : Fn} {kn : Int32} {mi : Fn} {ik : Nat → Bool} {tm : Int32} {to : Fn} {mr : Int64} {tx : Fn} {tn : Int32} {cu : Int32} {sa : Int32} {tk : Int32} {nu : Int32} {wr : Bool} {it : Int32} {sd : Int32} {swt : Fn} {sdd : Int32} {sbx : Fn} {sfl : Fn} {sdi : Fn} {sb : Int32} {sst : Fn} {sp : Int32} {sr : Int32} {nw : Fn} {od : Fn} {bs : Fn}
def Lg (B : Fn) (th : Int32) (k : Nat) : Int32 := if B k + th < 0 then 0 else B k + th
def oD (rs pi : Int32) (B : Fn) (s : Int32 × Int32) (k : Nat) : Int32 := msz (nbI rs pi s.1 (Lg B s.2 k) - Lg B s.2 k)
def oC (rs pi : Int32) (B : Fn) (s : Int32 × Int32) (k : Nat) : Nat := (oD rs pi B s k).toNatClampNeg
def oN (rs pi : Int32) (B : Fn) (s : Int32 × Int32) (k : Nat) : Int32 × Int32 := (nbI rs pi (nbI rs pi s.1 (Lg B s.2 k)) 0, 0)
def gdS (pi : Int32) (s : Int32 × Int32) : Prop := (0 ≤ s.1.toInt ∧ s.1.toInt ≤ pi.toInt) ∧ -9 ≤ s.2.toInt ∧ s.2.toInt ≤ 9
def OH (n : Nat) (rs pi : Int32) (B : Fn) : Prop := (0 ≤ rs.toInt ∧ rs.toInt ≤ 9) ∧ (0 ≤ pi.toInt ∧ pi.toInt ≤ 99) ∧ ∀ k, k < n → -200 ≤ (B k).toInt ∧ (B k).toInt ≤ 200
theorem Lg_b {n : Nat} {rs : Int32} {B : Fn} {s : Int32 × Int32} {k : Nat} (hO : OH n rs pi B) (hk : k < n) (hg : gdS pi s) : 0 ≤ (Lg B s.2 k).toInt ∧ (Lg B s.2 k).toInt ≤ 209 := by
  have b := hO.2.2 k hk
  have t := hg.2
  have x3 : (0 : Int32).toInt = 0 := rfl
  have e := tI_add (x := B k) (y := s.2) (by omega) (by omega)
  unfold Lg
  by_cases c : B k + s.2 < 0
  · rw [if_pos c, x3]
    omega
  · rw [if_neg c]
    have c2 : ¬ (B k + s.2).toInt < (0 : Int32).toInt := fun q => c (Int32.lt_iff_toInt_lt.mpr q)
    rw [x3] at c2
    omega
theorem tI_neg {x : Int32} (h1 : -1000000 ≤ x.toInt) (h2 : x.toInt ≤ 1000000) : (-x).toInt = -x.toInt := by
  rw [Int32.toInt_neg]
  exact Int.bmod_eq_of_le (by omega) (by omega)
theorem oC_ok {n : Nat} {rs : Int32} {B : Fn} {s : Int32 × Int32} {k : Nat} (hO : OH n rs pi B) (hk : k < n) (hg : gdS pi s) : oD rs pi B s k = nI (oC rs pi B s k) ∧ oC rs pi B s k ≤ 1000 ∧ gdS pi (oN rs pi B s k) := by
  have l := Lg_b hO hk hg
  have x3 : (0 : Int32).toInt = 0 := rfl
  have hr := hO.1
  have hp := hO.2.1
  have hg1 := hg.1
  have r1 := nb_rng (ru := rs) (pin := pi) (nd := s.1) (ld := Lg B s.2 k) (by omega) (by omega) (by omega) (by omega) (by omega) (by omega)
  have r2 := nb_rng (ru := rs) (pin := pi) (nd := nbI rs pi s.1 (Lg B s.2 k)) (ld := 0) (by omega) (by omega) (by omega) (by omega) (by rw [x3]; omega) (by rw [x3]; omega)
  have e := tI_sub (x := nbI rs pi s.1 (Lg B s.2 k)) (y := Lg B s.2 k) (by omega) (by omega)
  have en := tI_neg (x := nbI rs pi s.1 (Lg B s.2 k) - Lg B s.2 k) (by omega) (by omega)
  have d : 0 ≤ (oD rs pi B s k).toInt ∧ (oD rs pi B s k).toInt ≤ 1000 := by
    unfold oD msz
    by_cases c : nbI rs pi s.1 (Lg B s.2 k) - Lg B s.2 k < 0
    · rw [if_pos c]
      have c2 := Int32.lt_iff_toInt_lt.mp c
      rw [x3] at c2
      omega
    · rw [if_neg c]
      have c2 : ¬ (nbI rs pi s.1 (Lg B s.2 k) - Lg B s.2 k).toInt < (0 : Int32).toInt := fun q => c (Int32.lt_iff_toInt_lt.mpr q)
      rw [x3] at c2
      omega
  obtain ⟨j, hj, ej⟩ := jin_nat (n := 1000) (by decide) (jin_of (v := oD rs pi B s k) (lo := 0) (hi := nI 1000) (by rw [x3]; omega) (by rw [show (nI 1000).toInt = 1000 by decide]; omega))
  have ec : oC rs pi B s k = j := by
    unfold oC
    rw [ej, nI_clamp (by omega)]
  rw [ec]
  exact ⟨ej, hj, ⟨r2, by show -9 ≤ (0 : Int32).toInt; rw [x3]; omega, by show (0 : Int32).toInt ≤ 9; rw [x3]; omega⟩⟩
theorem nI_tI {t : Nat} (h : t < 2 ^ 31) : (nI t).toInt = t := nI_toInt h
def voV (o : Option (Nat × List Nat)) : Nat := match o with | none => 1000000 | some a => a.1
theorem ia_sz (v : Int32) : iabs v = msz v := by
  unfold iabs msz
  by_cases c : v < 0
  · rw [if_pos c, if_neg (fun e => absurd (Int32.le_iff_toInt_le.mp e) (by have := Int32.lt_iff_toInt_lt.mp c; omega)), Int32.zero_sub]
  · rw [if_neg c, if_pos (Int32.le_iff_toInt_le.mpr (by have : ¬ v.toInt < (0 : Int32).toInt := fun q => c (Int32.lt_iff_toInt_lt.mpr q); omega))]
theorem imin_up {a b : Nat} (ha : a < 2 ^ 31) (hb : b < 2 ^ 31) : imin (nI a) (nI b) = nI (if a ≤ b then a else b) := by
  unfold imin
  by_cases h : a ≤ b
  · rw [if_pos h, if_neg (fun q => absurd (Int32.lt_iff_toInt_lt.mp q) (by rw [nI_tI ha, nI_tI hb]; omega))]
  · rw [if_neg h, if_pos (Int32.lt_iff_toInt_lt.mpr (by rw [nI_tI ha, nI_tI hb]; omega))]
section
variable {n : Nat} {bu B : Fn}
theorem rd_bu (hn : n ≤ 6) (hb : ∀ k, k < n → bu k = B k) {k : Nat} (hk : k < n) (th : Int32) : imax 0 (rAt 6 bu (nI k) + th) = Lg B th k := by
  rw [rAt_in (by omega) (by decide), hb k hk, imax_if]
  rfl
theorem lf_num (hn : n ≤ 6) (hO : OH n S.2.2.1 P.2.2.2.2.1 B) (hb : ∀ k, k < n → bu k = B k) {x k m : Nat} {s : Int32 × Int32} {rest : Int32 → Int32 → Int32} (hx : x < 64) (hk : k < n) (hg : gdS P.2.2.2.2.1 s) {t : Nat} (hr : rest (nI (clr x k)) (oN S.2.2.1 P.2.2.2.2.1 B s k).1 = nI t) : lfI P S bu rest (nI k) (nI x) s.1 s.2 = nI (oC S.2.2.1 P.2.2.2.2.1 B s k + t) := by
  unfold lfI
  rw [rd_bu hn hb hk, (clr_and hx (show k < 6 by omega)).1, ia_sz]
  have e : nbS P S (nbS P S s.1 (Lg B s.2 k)) 0 = (oN S.2.2.1 P.2.2.2.2.1 B s k).1 := rfl
  rw [e, hr]
  have e2 : msz (nbS P S s.1 (Lg B s.2 k) - Lg B s.2 k) = oD S.2.2.1 P.2.2.2.2.1 B s k := rfl
  rw [e2, (oC_ok hO hk hg).1, nIa]
theorem tb_hs {x k : Nat} (hx : x < 64) (hk : k < 6) : tbit (nI x) (nI k) = hs x k := tb_has hx hk
theorem le_num (hn : n ≤ 6) (hO : OH n S.2.2.1 P.2.2.2.2.1 B) (hb : ∀ k, k < n → bu k = B k) : ∀ (r m x : Nat) (s : Int32 × Int32), m ≤ r → r ≤ 6 → popN x = m → x < 2 ^ n → gdS P.2.2.2.2.1 s → leI P S bu n r (nI x) s.1 s.2 = nI (voV (bst (oC S.2.2.1 P.2.2.2.2.1 B) (oN S.2.2.1 P.2.2.2.2.1 B) m x s))
  | 0, m, x, s, hm, _, hp, hx, _ => by
    have : m = 0 := by omega
    subst this
    rfl
  | r + 1, m, x, s, hm, hr6, hp, hx, hg => by
    have hx6 : x < 64 := pow_le64 hn hx
    rcases m with _ | m
    · have e0 := pop_0 hx6 hp
      subst e0
      show (if nI 0 = 0 then 0 else iter (leStep P S bu (fun l x => leI P S bu n r l x 0) (nI 0) s.1 s.2) n 0 1000000) = nI 0
      rw [if_pos (show nI 0 = 0 from rfl)]
      rfl
    · have hne : ¬ nI x = 0 := fun q => by
        have e0 : x = 0 := nIi (a := x) (b := 0) (by omega) (by omega) q
        subst e0
        exact absurd hp (by show ¬ popN 0 = m + 1; rw [show popN 0 = 0 from rfl]; omega)
      show (if nI x = 0 then 0 else iter (leStep P S bu (fun l x => leI P S bu n r l x 0) (nI x) s.1 s.2) n 0 1000000) = _
      rw [if_neg hne]
      have hstep : ∀ (m2 k : Nat) (a : Option (Nat × List Nat)), k + m2 = n → voV a ≤ 1000000 → iter (leStep P S bu (fun l x => leI P S bu n r l x 0) (nI x) s.1 s.2) m2 k (nI (voV a)) = nI (voV (upO a (fo (fun d => if hs x d = true then shO (oC S.2.2.1 P.2.2.2.2.1 B s d) d (bst (oC S.2.2.1 P.2.2.2.2.1 B) (oN S.2.2.1 P.2.2.2.2.1 B) m (clr x d) (oN S.2.2.1 P.2.2.2.2.1 B s d)) else none) m2 k))) := by
        intro m2
        induction m2 with
        | zero => exact fun k a _ _ => by rw [show fo _ 0 k = none from rfl, upO_none]; rfl
        | succ m2 ih =>
          intro k a e ha
          have hk : k < n := by omega
          have ok := oC_ok hO hk hg
          show iter (leStep P S bu (fun l x => leI P S bu n r l x 0) (nI x) s.1 s.2) m2 (k + 1) (if tbit (nI x) (nI k) then imin (nI (voV a)) (lfI P S bu (fun l x => leI P S bu n r l x 0) (nI k) (nI x) s.1 s.2) else nI (voV a)) = nI (voV (upO a (upO (if hs x k = true then shO (oC S.2.2.1 P.2.2.2.2.1 B s k) k (bst (oC S.2.2.1 P.2.2.2.2.1 B) (oN S.2.2.1 P.2.2.2.2.1 B) m (clr x k) (oN S.2.2.1 P.2.2.2.2.1 B s k)) else none) (fo _ m2 (k + 1)))))
          rw [tb_hs hx6 (show k < 6 by omega), ← upO_assoc]
          by_cases c : hs x k = true
          · rw [if_pos c, if_pos c]
            have ca := clr_and hx6 (show k < 6 by omega)
            have cp := clr_pop hx6 (show k < 6 by omega) c
            obtain ⟨t, w, eb, tb4, _⟩ := bst_some (oC S.2.2.1 P.2.2.2.2.1 B) (oN S.2.2.1 P.2.2.2.2.1 B) (gd := gdS P.2.2.2.2.1) (N := n) (fun s k hg hk => ⟨(oC_ok hO hk hg).2.1, (oC_ok hO hk hg).2.2⟩) hn m (clr x k) (oN S.2.2.1 P.2.2.2.2.1 B s k) ok.2.2 (by omega) (by omega)
            have ir := le_num hn hO hb r m (clr x k) (oN S.2.2.1 P.2.2.2.2.1 B s k) (by omega) (by omega) (by omega) (by omega) ok.2.2
            rw [eb] at ir ⊢
            rw [lf_num (m := 0) hn hO hb hx6 hk hg (t := t) ir, imin_up (by omega) (by omega)]
            have ev : (if voV a ≤ oC S.2.2.1 P.2.2.2.2.1 B s k + t then voV a else oC S.2.2.1 P.2.2.2.2.1 B s k + t) = voV (upO a (shO (oC S.2.2.1 P.2.2.2.2.1 B s k) k (some (t, w)))) := by
              rcases a with _ | a
              · show (if 1000000 ≤ oC S.2.2.1 P.2.2.2.2.1 B s k + t then 1000000 else oC S.2.2.1 P.2.2.2.2.1 B s k + t) = oC S.2.2.1 P.2.2.2.2.1 B s k + t
                rw [if_neg (by omega)]
              · show (if a.1 ≤ oC S.2.2.1 P.2.2.2.2.1 B s k + t then a.1 else oC S.2.2.1 P.2.2.2.2.1 B s k + t) = voV (if a.1 ≤ oC S.2.2.1 P.2.2.2.2.1 B s k + t then some a else some (oC S.2.2.1 P.2.2.2.2.1 B s k + t, k :: w))
                by_cases c3 : a.1 ≤ oC S.2.2.1 P.2.2.2.2.1 B s k + t
                · rw [if_pos c3, if_pos c3]
                  rfl
                · rw [if_neg c3, if_neg c3]
                  rfl
            rw [ev]
            exact ih (k + 1) _ (by omega) (by rw [← ev]; split <;> omega)
          · rw [if_neg c, if_neg c, upO_none]
            exact ih (k + 1) a (by omega) ha
      have z := hstep n 0 none (by omega) (by decide)
      refine z.trans (congrArg (fun y => nI (voV y)) ?_)
      show fo _ n 0 = fo _ 6 0
      rw [show 6 = n + (6 - n) by omega, fo_add]
      refine (upO_none _).symm.trans (congrArg (upO _) ?_)
      refine (fo_none _ _ (fun i h1 h2 => ?_)).symm
      show (if hs x i = true then _ else none) = none
      rw [if_neg (by rw [hs_out hn hx (by omega) (by omega)]; decide)]
def paV (o : Option (Nat × List Nat)) : Int32 × Int32 := match o with | none => (-9, nI 1000000) | some a => (nI (a.2.headD 0), nI a.1)
theorem paV2 (o : Option (Nat × List Nat)) : (paV o).2 = nI (voV o) := by
  rcases o with _ | a <;> rfl
theorem le_nI {a b : Nat} (ha : a < 2 ^ 31) (hb : b < 2 ^ 31) : nI a ≤ nI b ↔ a ≤ b := by
  rw [Int32.le_iff_toInt_le, nI_tI ha, nI_tI hb]
  omega
theorem bn_num (hn : n ≤ 6) (hO : OH n S.2.2.1 P.2.2.2.2.1 B) (hb : ∀ k, k < n → bu k = B k) {r m x : Nat} {s : Int32 × Int32} (hm : m ≤ r) (hr6 : r ≤ 6) (hp : ∀ k, k < 6 → hs x k = true → popN (clr x k) = m) (hx : x < 2 ^ n) (hg : gdS P.2.2.2.2.1 s) : bnI P S bu n r (nI x) s.1 s.2 = (paV (bst (oC S.2.2.1 P.2.2.2.2.1 B) (oN S.2.2.1 P.2.2.2.2.1 B) (m + 1) x s)).1 := by
  have hx6 : x < 64 := pow_le64 hn hx
  have hstep : ∀ (m2 k : Nat) (a : Option (Nat × List Nat)), k + m2 = n → voV a ≤ 1000000 → iter (bnStep P S bu (fun l x => leI P S bu n r l x 0) (nI x) s.1 s.2) m2 k (paV a) = paV (upO a (fo (fun d => if hs x d = true then shO (oC S.2.2.1 P.2.2.2.2.1 B s d) d (bst (oC S.2.2.1 P.2.2.2.2.1 B) (oN S.2.2.1 P.2.2.2.2.1 B) m (clr x d) (oN S.2.2.1 P.2.2.2.2.1 B s d)) else none) m2 k)) := by
    intro m2
    induction m2 with
    | zero => exact fun k a _ _ => by rw [show fo _ 0 k = none from rfl, upO_none]; rfl
    | succ m2 ih =>
      intro k a e ha
      have hk : k < n := by omega
      have ok := oC_ok hO hk hg
      show iter (bnStep P S bu (fun l x => leI P S bu n r l x 0) (nI x) s.1 s.2) m2 (k + 1) (if (paV a).2 ≤ (if tbit (nI x) (nI k) then lfI P S bu (fun l x => leI P S bu n r l x 0) (nI k) (nI x) s.1 s.2 else 1000000) then paV a else (nI k, if tbit (nI x) (nI k) then lfI P S bu (fun l x => leI P S bu n r l x 0) (nI k) (nI x) s.1 s.2 else 1000000)) = paV (upO a (upO (if hs x k = true then shO (oC S.2.2.1 P.2.2.2.2.1 B s k) k (bst (oC S.2.2.1 P.2.2.2.2.1 B) (oN S.2.2.1 P.2.2.2.2.1 B) m (clr x k) (oN S.2.2.1 P.2.2.2.2.1 B s k)) else none) (fo _ m2 (k + 1))))
      rw [tb_hs hx6 (show k < 6 by omega), ← upO_assoc, paV2]
      by_cases c : hs x k = true
      · rw [if_pos c, if_pos c]
        have ca := clr_and hx6 (show k < 6 by omega)
        have cp := hp k (by omega) c
        obtain ⟨t, w, eb, tb4, _⟩ := bst_some (oC S.2.2.1 P.2.2.2.2.1 B) (oN S.2.2.1 P.2.2.2.2.1 B) (gd := gdS P.2.2.2.2.1) (N := n) (fun s k hg hk => ⟨(oC_ok hO hk hg).2.1, (oC_ok hO hk hg).2.2⟩) hn m (clr x k) (oN S.2.2.1 P.2.2.2.2.1 B s k) ok.2.2 (by omega) (by omega)
        have ir := le_num hn hO hb r m (clr x k) (oN S.2.2.1 P.2.2.2.2.1 B s k) (by omega) (by omega) (by omega) (by omega) ok.2.2
        rw [eb] at ir ⊢
        rw [lf_num (m := 0) hn hO hb hx6 hk hg (t := t) ir]
        have ev : (if nI (voV a) ≤ nI (oC S.2.2.1 P.2.2.2.2.1 B s k + t) then paV a else (nI k, nI (oC S.2.2.1 P.2.2.2.2.1 B s k + t))) = paV (upO a (shO (oC S.2.2.1 P.2.2.2.2.1 B s k) k (some (t, w)))) ∧ voV (upO a (shO (oC S.2.2.1 P.2.2.2.2.1 B s k) k (some (t, w)))) ≤ 1000000 := by
          rcases a with _ | a
          · show (if nI 1000000 ≤ nI (oC S.2.2.1 P.2.2.2.2.1 B s k + t) then (-9, nI 1000000) else (nI k, nI (oC S.2.2.1 P.2.2.2.2.1 B s k + t))) = (nI k, nI (oC S.2.2.1 P.2.2.2.2.1 B s k + t)) ∧ oC S.2.2.1 P.2.2.2.2.1 B s k + t ≤ 1000000
            rw [if_neg (fun q => absurd ((le_nI (by omega) (by omega)).mp q) (by omega))]
            exact ⟨rfl, by omega⟩
          · have ha : a.1 ≤ 1000000 := ha
            show (if nI a.1 ≤ nI (oC S.2.2.1 P.2.2.2.2.1 B s k + t) then paV (some a) else (nI k, nI (oC S.2.2.1 P.2.2.2.2.1 B s k + t))) = paV (if a.1 ≤ oC S.2.2.1 P.2.2.2.2.1 B s k + t then some a else some (oC S.2.2.1 P.2.2.2.2.1 B s k + t, k :: w)) ∧ voV (if a.1 ≤ oC S.2.2.1 P.2.2.2.2.1 B s k + t then some a else some (oC S.2.2.1 P.2.2.2.2.1 B s k + t, k :: w)) ≤ 1000000
            by_cases c3 : a.1 ≤ oC S.2.2.1 P.2.2.2.2.1 B s k + t
            · rw [if_pos c3, if_pos ((le_nI (by omega) (by omega)).mpr c3)]
              exact ⟨rfl, ha⟩
            · rw [if_neg c3, if_neg (fun q => c3 ((le_nI (by omega) (by omega)).mp q))]
              exact ⟨rfl, by show oC S.2.2.1 P.2.2.2.2.1 B s k + t ≤ 1000000; omega⟩
        rw [ev.1]
        exact ih (k + 1) _ (by omega) ev.2
      · rw [if_neg c, if_neg c, upO_none, if_pos (show nI (voV a) ≤ 1000000 from (le_nI (b := 1000000) (by omega) (by omega)).mpr ha)]
        exact ih (k + 1) a (by omega) ha
  have z := hstep n 0 none (by omega) (by decide)
  refine (congrArg Prod.fst z).trans (congrArg (fun y => (paV y).1) ?_)
  show fo _ n 0 = fo _ 6 0
  rw [show 6 = n + (6 - n) by omega, fo_add]
  refine (upO_none _).symm.trans (congrArg (upO _) ?_)
  refine (fo_none _ _ (fun i h1 h2 => ?_)).symm
  show (if hs x i = true then _ else none) = none
  rw [if_neg (by rw [hs_out hn hx (by omega) (by omega)]; decide)]
theorem io_num (hn : n ≤ 6) (hO : OH n S.2.2.1 P.2.2.2.2.1 B) (hb : ∀ k, k < n → bu k = B k) : ∀ (j e x M : Nat) (s : Int32 × Int32) (p : Int32) (t : Nat) (w : List Nat), popN x = M → e + M ≤ 6 → x < 2 ^ n → gdS P.2.2.2.2.1 s → bst (oC S.2.2.1 P.2.2.2.2.1 B) (oN S.2.2.1 P.2.2.2.2.1 B) M x s = some (t, w) → ioI P S bu n (j + 1) e (nI x) s.1 s.2 p = if j < M then nI (w.getD j 0) else -9 := by
  intro j
  induction j with
  | zero =>
    intro e x M s p t w hp he hx hg h
    have hx6 : x < 64 := pow_le64 hn hx
    show (if bnI P S bu n (5 - e) (nI x) s.1 s.2 = -9 then -9 else bnI P S bu n (5 - e) (nI x) s.1 s.2) = _
    rcases M with _ | m
    · have e0 := pop_0 hx6 hp
      subst e0
      rw [bn_num hn hO hb (m := 0) (by omega) (by omega) (fun k hk z => by rw [hs_out (n := 0) (x := 0) (by omega) (by decide) (by omega) hk] at z; cases z) hx hg]
      have en : bst (oC S.2.2.1 P.2.2.2.2.1 B) (oN S.2.2.1 P.2.2.2.2.1 B) (0 + 1) 0 s = none := fo_none 6 0 (fun i _ hi => if_neg (by rw [hs_out (n := 0) (x := 0) (by omega) (by decide) (by omega) (by omega)]; decide))
      rw [en, if_neg (Nat.lt_irrefl 0)]
      rfl
    · obtain ⟨k, t2, w2, hk, hh, ew, et, eb⟩ := bst_head _ _ h
      rw [bn_num hn hO hb (m := m) (by omega) (by omega) (fun k hk z => by have := clr_pop hx6 hk z; omega) hx hg, h, ew]
      show (if nI k = -9 then -9 else nI k) = if 0 < m + 1 then nI k else -9
      rw [if_neg (fun q => absurd (congrArg Int32.toInt q) (by rw [nI_tI (by omega)]; show ¬ (k : Int) = -9; omega)), if_pos (by omega)]
  | succ j ih =>
    intro e x M s p t w hp he hx hg h
    have hx6 : x < 64 := pow_le64 hn hx
    show (if bnI P S bu n (5 - e) (nI x) s.1 s.2 = -9 then -9 else ioI P S bu n (j + 1) (e + 1) (nI x &&& (bitI (bnI P S bu n (5 - e) (nI x) s.1 s.2) ^^^ -1)) (nbS P S (nbS P S s.1 (imax 0 (rAt 6 bu (bnI P S bu n (5 - e) (nI x) s.1 s.2) + s.2))) 0) 0 (bnI P S bu n (5 - e) (nI x) s.1 s.2)) = _
    rcases M with _ | m
    · have e0 := pop_0 hx6 hp
      subst e0
      rw [bn_num hn hO hb (m := 0) (by omega) (by omega) (fun k hk z => by rw [hs_out (n := 0) (x := 0) (by omega) (by decide) (by omega) hk] at z; cases z) hx hg]
      have en : bst (oC S.2.2.1 P.2.2.2.2.1 B) (oN S.2.2.1 P.2.2.2.2.1 B) (0 + 1) 0 s = none := fo_none 6 0 (fun i _ hi => if_neg (by rw [hs_out (n := 0) (x := 0) (by omega) (by decide) (by omega) (by omega)]; decide))
      rw [en, if_pos (show (paV none).1 = -9 from rfl), if_neg (by omega)]
    · obtain ⟨k, t2, w2, hk, hh, ew, et, eb⟩ := bst_head _ _ h
      have kn : k < n := by
        by_cases q : n ≤ k
        · rw [hs_out hn hx q hk] at hh
          cases hh
        · omega
      have ok := oC_ok hO kn hg
      have ca := clr_and hx6 hk
      have eq : bnI P S bu n (5 - e) (nI x) s.1 s.2 = nI k := by
        rw [bn_num hn hO hb (m := m) (by omega) (by omega) (fun k hk z => by have := clr_pop hx6 hk z; omega) hx hg, h, ew]
        rfl
      rw [eq, if_neg (fun q => absurd (congrArg Int32.toInt q) (by rw [nI_tI (by omega)]; show ¬ (k : Int) = -9; omega)), ca.1, rd_bu hn hb kn]
      have z := ih (e + 1) (clr x k) m (oN S.2.2.1 P.2.2.2.2.1 B s k) (nI k) t2 w2 (by have := clr_pop hx6 hk hh; omega) (by omega) (by omega) ok.2.2 eb
      refine (show _ = _ from z).trans ?_
      rw [ew]
      by_cases c : j < m
      · rw [if_pos c, if_pos (by omega)]
        rfl
      · rw [if_neg c, if_neg (by omega)]
end
end

/-! the order: the reference against the numbers -/
section
variable {g : GG} {scr : AC} {lt : Fn} {lc : Int32} {rd : RdV} {sw : Bool} {P : ParV} {D : ParV} {S : ScV} {kk : Int32} {nx : Int32} {ring : Nat → ScV} {bu : Fn} {im : Nat → ScV} {kept : Int32} {tb : Fn} {tr : Fn} {tc : Int32} {ts : Int64} {de : Int32} {we : Fn} {da : Int32} {bo : Fn} {be : Int32} {sg : Fn} {pi : Int32} {ru : Int32} {st : Fn} {wa : Fn} {kn : Int32} {mi : Fn} {ik : Nat → Bool} {tm : Int32} {to : Fn} {mr : Int64} {tx : Fn} {tn : Int32} {cu : Int32} {sa : Int32} {tk : Int32} {nu : Int32} {wr : Bool} {it : Int32} {sd : Int32} {swt : Fn} {sdd : Int32} {sbx : Fn} {sfl : Fn} {sdi : Fn} {sb : Int32} {sst : Fn} {sp : Int32} {sr : Int32} {nw : Fn} {od : Fn} {bs : Fn}
theorem digs_get (c q j : Nat) : (digs (c + 1) q).getD j 0 = if j < c then (digs c (q / 6)).getD j 0 else if j = c then q % 6 else 0 := by
  show (digs c (q / 6) ++ [q % 6]).getD j 0 = _
  have l := digs_len c (q / 6)
  by_cases h : j < c
  · rw [if_pos h, List.getD_eq_getElem?_getD, List.getD_eq_getElem?_getD, List.getElem?_append_left (by omega)]
  · rw [if_neg h, List.getD_eq_getElem?_getD, List.getElem?_append_right (by omega), l]
    by_cases e : j = c
    · subst e
      rw [if_pos rfl, Nat.sub_self]
      rfl
    · rw [if_neg e]
      obtain ⟨d, rfl⟩ : ∃ d, j = c + (d + 1) := ⟨j - c - 1, by omega⟩
      rw [show c + (d + 1) - c = d + 1 by omega]
      rfl
theorem io_fn {set : Int32} : ∀ (c q : Nat) (od : Fn) (met : Int32) (b : Bool) (j : Nat), (ioM set c q od met b).1 j = if j < c then nI ((digs c q).getD j 0) else od j
  | 0, _, _, _, _, _ => rfl
  | c + 1, q, od, met, b, j => by
    show (ioM set c (q / 6) (upd od c (nI (q % 6))) (met ||| bitI (nI (q % 6))) (b && mhas (set &&& (met ^^^ -1)) (nI (q % 6)))).1 j = _
    rw [io_fn c, digs_get]
    by_cases h : j < c
    · rw [if_pos h, if_pos h, if_pos (by omega)]
    · rw [if_neg h, if_neg h]
      by_cases e : j = c
      · subst e
        rw [if_pos rfl, if_pos (by omega)]
        exact if_pos rfl
      · rw [if_neg (by omega)]
        exact if_neg e
theorem dif_and {x y : Nat} (hx : x < 64) (hy : y < 64) : nI x &&& (nI y ^^^ -1) = nI (x &&& (63 ^^^ y)) ∧ (x &&& (63 ^^^ y)) < 64 := by
  have : ∀ x, x < 64 → ∀ y, y < 64 → nI x &&& (nI y ^^^ -1) = nI (x &&& (63 ^^^ y)) ∧ (x &&& (63 ^^^ y)) < 64 := by decide +kernel
  exact this x hx y hy
theorem dif_clr {x y e : Nat} (hy : y < 64) (he : e < 6) : (x &&& (63 ^^^ (y ||| 2 ^ e))) = clr (x &&& (63 ^^^ y)) e := by
  have : ∀ y, y < 64 → ∀ e, e < 6 → ((63 ^^^ y) &&& (63 ^^^ 2 ^ e)) = 63 ^^^ (y ||| 2 ^ e) := by decide +kernel
  unfold clr
  rw [Nat.and_assoc, this y hy e he]
theorem io_ok {x : Nat} (hx : x < 64) : ∀ (c q : Nat) (od : Fn) (y : Nat) (b : Bool), y < 64 → (ioM (nI x) c q od (nI y) b).2 = (b && okL (digs c q) (x &&& (63 ^^^ y)))
  | 0, _, _, _, b, _ => (Bool.and_true b).symm
  | c + 1, q, od, y, b, hy => by
    show (ioM (nI x) c (q / 6) (upd od c (nI (q % 6))) (nI y ||| bitI (nI (q % 6))) (b && mhas (nI x &&& (nI y ^^^ -1)) (nI (q % 6)))).2 = (b && okL (digs c (q / 6) ++ [q % 6]) (x &&& (63 ^^^ y)))
    have ob := or_bit (ne := 6) (by decide) hy (show q % 6 < 6 by omega)
    have da := dif_and hx hy
    rw [ob.2, io_ok hx c _ _ _ _ ob.1, da.1, dif_clr hy (show q % 6 < 6 by omega), okL_snoc (show q % 6 < 6 by omega) _ _ (digs_lt c _) da.2, Bool.and_assoc]
    rfl
theorem okL_lt {n : Nat} (hn : n ≤ 6) : ∀ (w : List Nat) (x : Nat), (∀ d, d ∈ w → d < 6) → x < 2 ^ n → okL w x = true → ∀ d, d ∈ w → d < n
  | [], _, _, _, _, _, h => nomatch h
  | e :: w, x, h6, hx, h, d, hd => by
    have hx6 := pow_le64 hn hx
    have he := h6 e (List.mem_cons_self ..)
    obtain ⟨h1, h2⟩ := (Bool.and_eq_true _ _).mp (show (hs x e && okL w (clr x e)) = true from h)
    have ca := clr_and hx6 he
    rcases List.mem_cons.mp hd with q | q
    · subst q
      by_cases c : n ≤ d
      · rw [hs_out hn hx c he] at h1
        cases h1
      · omega
    · exact okL_lt hn w (clr x e) (fun d2 z => h6 d2 (List.mem_cons_of_mem _ z)) (by omega) h2 d q
theorem laN_val {f : Fn} {ld : Int32} {j t : Nat} : laN pi f ld j t = if t = 1 then 0 else if t = 0 then nbI (f 2) pi (laT pi f ld) 0 else if t = 15 + j then laT pi f ld else f t := by
  have z2 : upd (upd f 0 (laT pi f ld)) (15 + j) (laT pi f ld) 2 = f 2 := by
    unfold upd
    rw [if_neg (by omega), if_neg (by omega)]
  have z0 : upd (upd f 0 (laT pi f ld)) (15 + j) (laT pi f ld) 0 = laT pi f ld := by
    unfold upd
    rw [if_neg (by omega), if_pos rfl]
  show upd (upd (upd (upd f 0 (laT pi f ld)) (15 + j) (laT pi f ld)) 0 (nbI (upd (upd f 0 (laT pi f ld)) (15 + j) (laT pi f ld) 2) pi (upd (upd f 0 (laT pi f ld)) (15 + j) (laT pi f ld) 0) 0)) 1 0 t = _
  rw [z2, z0]
  unfold upd
  by_cases c1 : t = 1
  · rw [if_pos c1, if_pos c1]
  · rw [if_neg c1, if_neg c1]
    by_cases c0 : t = 0
    · rw [if_pos c0, if_pos c0]
    · rw [if_neg c0, if_neg c0, if_neg c0]
def inF (pi : Int32) (st f : Fn) : Prop := f 2 = st 2 ∧ (∀ k, k < 6 → f (3 + k) = st (3 + k) ∧ f (9 + k) = st (9 + k)) ∧ gdS pi (f 0, f 1)
theorem tot_le {n : Nat} {rs : Int32} {B : Fn} (hO : OH n rs pi B) : ∀ (w : List Nat) (s : Int32 × Int32), (∀ d, d ∈ w → d < n) → gdS pi s → tot (oC rs pi B) (oN rs pi B) w s ≤ 1000 * w.length
  | [], _, _, _ => Nat.zero_le _
  | k :: w, s, h, hg => by
    have ok := oC_ok hO (h k (List.mem_cons_self ..)) hg
    have z := tot_le hO w _ (fun d hd => h d (List.mem_cons_of_mem _ hd)) ok.2.2
    show oC rs pi B s k + tot (oC rs pi B) (oN rs pi B) w (oN rs pi B s k) ≤ 1000 * (w.length + 1)
    omega
theorem df_num {n ne : Nat} {od B : Fn} (hn : n ≤ 6) (hB : ∀ k, k < 6 → trI we bo st ne k = B k) (hO : OH n (st 2) pi B) : ∀ (w : List Nat) (k acc : Nat) (f : Fn), (∀ i, i < w.length → vO od (k + i) = w.getD i 0) → (∀ d, d ∈ w → d < n) → inF pi st f → (iter (dbStep pi we bo od ne) w.length k (nI acc, f)).1 = nI (acc + tot (oC (st 2) pi B) (oN (st 2) pi B) w (f 0, f 1))
  | [], _, _, _, _, _, _ => rfl
  | v :: w, k, acc, f, hv, hd, hi => by
    have ev : vO od k = v := hv 0 (by rw [List.length_cons]; omega)
    have vn : v < n := hd v (List.mem_cons_self ..)
    have ok := oC_ok hO vn hi.2.2
    have em : mlI we bo f ne v = Lg B (f 1) v := by
      have et : trI we bo f ne v = B v := by
        rw [← hB v (by omega)]
        unfold trI
        rw [(hi.2.1 v (by omega)).1, (hi.2.1 v (by omega)).2]
      unfold mlI Lg
      rw [et]
    have el : laT pi f (Lg B (f 1) v) = nbI (st 2) pi (f 0) (Lg B (f 1) v) := by
      unfold laT
      rw [hi.1]
    have e0 : laN pi f (Lg B (f 1) v) v 0 = (oN (st 2) pi B (f 0, f 1) v).1 := by
      rw [laN_val, if_neg (by omega), if_pos rfl, el, hi.1]
      rfl
    have e1 : laN pi f (Lg B (f 1) v) v 1 = 0 := by rw [laN_val, if_pos rfl]
    have hi2 : inF pi st (laN pi f (Lg B (f 1) v) v) := by
      refine ⟨?_, fun k hk => ⟨?_, ?_⟩, ?_⟩
      · rw [laN_val, if_neg (by omega), if_neg (by omega), if_neg (by omega)]
        exact hi.1
      · rw [laN_val, if_neg (by omega), if_neg (by omega), if_neg (by omega)]
        exact (hi.2.1 k hk).1
      · rw [laN_val, if_neg (by omega), if_neg (by omega), if_neg (by omega)]
        exact (hi.2.1 k hk).2
      · rw [e0, e1]
        exact ok.2.2
    show (iter (dbStep pi we bo od ne) w.length (k + 1) (nI acc + msz (laT pi f (mlI we bo f ne (vO od k)) - mlI we bo f ne (vO od k)), laN pi f (mlI we bo f ne (vO od k)) (vO od k))).1 = nI (acc + (oC (st 2) pi B (f 0, f 1) v + tot (oC (st 2) pi B) (oN (st 2) pi B) w (oN (st 2) pi B (f 0, f 1) v)))
    rw [ev, em, el, show msz (nbI (st 2) pi (f 0) (Lg B (f 1) v) - Lg B (f 1) v) = nI (oC (st 2) pi B (f 0, f 1) v) from ok.1, nIa]
    have z := df_num hn hB hO w (k + 1) (acc + oC (st 2) pi B (f 0, f 1) v) _ (fun i hi => by
      have q := hv (i + 1) (by rw [List.length_cons]; omega)
      rw [show k + 1 + i = k + (i + 1) by omega]
      exact q) (fun d q => hd d (List.mem_cons_of_mem _ q)) hi2
    rw [e0, e1] at z
    rw [z, Nat.add_assoc]
    rfl
def RM (mn : Nat) (a : Int32 × Fn × Fn) (q : Option (Nat × List Nat)) : Prop := match q with | none => a.1 = -1 | some b => a.1 = nI b.1 ∧ b.1 ≤ 6000 ∧ ∀ j, j < mn → a.2.1 j = nI (b.2.getD j 0)
theorem mo_step {n ne mn x q : Nat} {B : Fn} {a : Int32 × Fn × Fn} {oo : Option (Nat × List Nat)} (hn : n ≤ 6) (hmn : mn ≤ 6) (hx : x < 2 ^ n) (hB : ∀ k, k < 6 → trI we bo st ne k = B k) (hO : OH n (st 2) pi B) (hg : gdS pi (st 0, st 1)) (h : RM mn a oo) : RM mn (moStep pi we bo st ne mn (nI x) q a) (upO oo (cand (oC (st 2) pi B) (oN (st 2) pi B) mn x (st 0, st 1) q)) := by
  have hx6 := pow_le64 hn hx
  have ek : (ioM (nI x) mn q a.2.2 0 true).2 = okL (digs mn q) x := by
    have z := io_ok hx6 mn q a.2.2 0 true (by decide)
    rw [Bool.true_and, show (x &&& (63 ^^^ 0)) = x by
      have : ∀ x, x < 64 → (x &&& (63 ^^^ 0)) = x := by decide +kernel
      exact this x hx6] at z
    exact z
  unfold moStep cand
  rw [ek]
  by_cases c : okL (digs mn q) x = true
  · rw [if_pos c, if_pos c]
    have dl := okL_lt hn (digs mn q) x (digs_lt mn q) hx c
    have ln := digs_len mn q
    have ef : ∀ j, j < mn → (ioM (nI x) mn q a.2.2 0 true).1 j = nI ((digs mn q).getD j 0) := fun j hj => by rw [io_fn, if_pos hj]
    have tl := tot_le hO (digs mn q) (st 0, st 1) dl hg
    have ed : (dfF pi we bo st (ioM (nI x) mn q a.2.2 0 true).1 ne mn).1 = nI (tot (oC (st 2) pi B) (oN (st 2) pi B) (digs mn q) (st 0, st 1)) := by
      have z := df_num (od := (ioM (nI x) mn q a.2.2 0 true).1) hn hB hO (digs mn q) 0 0 st (fun i hi => by
        have hi2 : i < mn := by omega
        unfold vO
        rw [Nat.zero_add, ef i hi2, nI_clamp]
        have d6 : (digs mn q).getD i 0 < 6 := by
          rw [List.getD_eq_getElem?_getD, List.getElem?_eq_getElem hi]
          exact digs_lt mn q _ (List.getElem_mem hi)
        omega) dl ⟨rfl, fun k _ => ⟨rfl, rfl⟩, hg⟩
      rw [ln, Nat.zero_add] at z
      exact z
    rw [ed]
    rw [ln] at tl
    generalize hT : tot (oC (st 2) pi B) (oN (st 2) pi B) (digs mn q) (st 0, st 1) = T at tl ⊢
    generalize hF : (ioM (nI x) mn q a.2.2 0 true).1 = F at ef ⊢
    unfold moC2
    rcases oo with _ | b
    · have h : a.1 = -1 := h
      rw [h, if_pos (by decide)]
      exact ⟨rfl, by omega, ef⟩
    · obtain ⟨h1, h2, h3⟩ := h
      rw [h1, if_neg (nI_pos (by omega))]
      show RM mn (if nI b.1 ≤ nI T then (nI b.1, a.2.1, F) else (nI T, F, F)) (if b.1 ≤ T then some b else some (T, digs mn q))
      by_cases c2 : b.1 ≤ T
      · rw [if_pos c2, if_pos ((le_nI (by omega) (by omega)).mpr c2)]
        exact ⟨rfl, h2, h3⟩
      · rw [if_neg c2, if_neg (fun z => c2 ((le_nI (by omega) (by omega)).mp z))]
        exact ⟨rfl, by show T ≤ 6000; omega, ef⟩
  · rw [if_neg c, if_neg c, upO_none]
    exact h
theorem mo_iter {n ne mn x : Nat} {B : Fn} (hn : n ≤ 6) (hmn : mn ≤ 6) (hx : x < 2 ^ n) (hB : ∀ k, k < 6 → trI we bo st ne k = B k) (hO : OH n (st 2) pi B) (hg : gdS pi (st 0, st 1)) : ∀ (m q : Nat) (a : Int32 × Fn × Fn) (oo : Option (Nat × List Nat)), RM mn a oo → RM mn (iter (moStep pi we bo st ne mn (nI x)) m q a) (iter (fun q b => upO b (cand (oC (st 2) pi B) (oN (st 2) pi B) mn x (st 0, st 1) q)) m q oo)
  | 0, _, _, _, h => h
  | m + 1, q, a, oo, h => mo_iter hn hmn hx hB hO hg m (q + 1) _ _ (mo_step hn hmn hx hB hO hg h)
theorem bu_num {n : Nat} : ∀ (m i : Nat) (f : Fn) (k : Nat), i + m = n → iter (buStep P S) m i f k = if i ≤ k ∧ k < n then bdI P S (nI k) else f k
  | 0, i, f, k, e => by
    rw [if_neg (by omega)]
    rfl
  | m + 1, i, f, k, e => by
    show iter (buStep P S) m (i + 1) (upd f i (bdI P S (nI i))) k = _
    rw [bu_num (n := n) m (i + 1) _ k (by omega)]
    by_cases c : i + 1 ≤ k ∧ k < n
    · rw [if_pos c, if_pos (by omega)]
    · rw [if_neg c]
      unfold upd
      by_cases c2 : k = i
      · subst c2
        rw [if_pos rfl, if_pos (by omega)]
      · rw [if_neg c2, if_neg (by omega)]
theorem mc_nI (f : Fn) : ∀ (m k y : Nat), k + m ≤ 6 → y < 64 → ∃ z : Nat, z < 64 ∧ iter (mcStep f) m k (nI y) = nI z
  | 0, _, y, _, hy => ⟨y, hy, rfl⟩
  | m + 1, k, y, h, hy => by
    show ∃ z : Nat, z < 64 ∧ iter (mcStep f) m (k + 1) (nI y ||| (if f (15 + k) = -9 then 0 else bitI (nI k))) = nI z
    by_cases c : f (15 + k) = -9
    · rw [if_pos c, Int32.or_zero]
      exact mc_nI f m (k + 1) y (by omega) hy
    · rw [if_neg c, (or_bit (ne := 6) (by decide) hy (show k < 6 by omega)).2]
      exact mc_nI f m (k + 1) _ (by omega) (or_bit (ne := 6) (by decide) hy (show k < 6 by omega)).1
theorem set_nI {n : Nat} (hn : n ≤ 6) (f : Fn) : ∃ x : Nat, x < 2 ^ n ∧ moSet f n = nI x := by
  obtain ⟨z, hz, e⟩ := mc_nI f n 0 0 (by omega) (by decide)
  have : ∀ n, n < 7 → ∀ z, z < 64 → ((2 ^ n - 1) &&& (63 ^^^ z)) < 2 ^ n ∧ allI (nI n) &&& (nI z ^^^ -1) = nI ((2 ^ n - 1) &&& (63 ^^^ z)) := by decide +kernel
  obtain ⟨h1, h2⟩ := this n (by omega) z hz
  exact ⟨_, h1, (congrArg (fun y => allI (nI n) &&& (y ^^^ -1)) e).trans h2⟩
theorem k_m1 {j : Nat} (h : j ≤ 5) : ¬ nI j = -1 := fun q => absurd (congrArg Int32.toInt q) (by rw [nI_tI (by omega)]; show ¬ (j : Int) = -1; omega)
set_option maxRecDepth 20000 in
set_option maxHeartbeats 200000 in
theorem p_order {k : Int32} (hR : RelB lt lc P S kk nx ring im kept tb tr tc ts de we da bo be sg pi ru st wa kn mi ik tm to mr tx tn) : Pair g scr mX6_order mX7_order [.int k] (W2 (W1 scr [] lt lc rd sw P D S kk nx ring bu im kept tb tr tc ts) de we da bo be sg pi ru st wa kn mi ik tm to mr tx tn cu sa tk nu wr it sd swt sdd sbx sfl sdi sb sst sp sr nw od bs) := by
  have hR0 := hR
  obtain ⟨n, ne, nb, nt, L, q, j, hN, hP, hS, hH, hI, hT, hL, ht⟩ := hR
  obtain ⟨x, hx, ex⟩ := set_nI hN.1 st
  have hx6 := pow_le64 hN.1 hx
  have h6 := hN.1
  have hmn : popN x ≤ 6 := by have := popN_le hN.1 hx; omega
  have hmb : mbits (moSet st n) = nI (popN x) := by rw [ex, ← bc_bits hx6, bcI_nI hx6]
  have eo : orS S n = nI x := by
    rw [← ex]
    unfold orS moSet
    rw [ch_eq hN.1 hS]
  have x0 : (0 : Int32).toInt = 0 := rfl
  have x9 : (9 : Int32).toInt = 9 := rfl
  have x8 : (-9 : Int32).toInt = -9 := rfl
  have x10 : (10 : Int32).toInt = 10 := rfl
  have x99 : (99 : Int32).toInt = 99 := rfl
  have r0 := jin_i hS.2.2.1
  have r1 := jin_i hS.2.2.2.1
  have r2 := jin_i hS.2.2.2.2
  have rp := jin_i hP.2.2.2.2.2.2.2.2
  rw [x0] at r0 r2
  rw [x8, x9] at r1
  rw [x9] at r2
  rw [x10, x99] at rp
  have hO : OH n (st 2) pi (trI we bo st ne) := ⟨r2, ⟨by omega, rp.2⟩, fun k hk => tr_b hN.1 hN.2.1 hP hS hk⟩
  have hg : gdS pi (st 0, st 1) := ⟨r0, r1⟩
  have eru : S.2.2.1 = st 2 := hS.1.2.2
  have epi : P.2.2.2.2.1 = pi := hP.2.2.2.1
  obtain ⟨t, w, eb, tb9, lw⟩ := bst_some (oC (st 2) pi (trI we bo st ne)) (oN (st 2) pi (trI we bo st ne)) (gd := gdS pi) (N := n) (fun s k hg hk => ⟨(oC_ok hO hk hg).2.1, (oC_ok hO hk hg).2.2⟩) hN.1 (popN x) x (st 0, st 1) hg hx rfl
  have hO1 : OH n S.2.2.1 P.2.2.2.2.1 (trI we bo st ne) := by rw [eru, epi]; exact hO
  have hg1 : gdS P.2.2.2.2.1 (S.1, S.2.1) := by rw [epi, hS.1.1, hS.1.2.1]; exact hg
  have eb1 : bst (oC S.2.2.1 P.2.2.2.2.1 (trI we bo st ne)) (oN S.2.2.1 P.2.2.2.2.1 (trI we bo st ne)) (popN x) x (S.1, S.2.1) = some (t, w) := by rw [eru, epi, hS.1.1, hS.1.2.1]; exact eb
  have hbu : ∀ k, k < n → iter (buStep P S) n 0 bu k = trI we bo st ne k := fun k hk => by rw [bu_num (n := n) n 0 bu k (by omega), if_pos (by omega), bd_eq hN.1 hN.2.1 hP hS hk]
  have hmo : RM (popN x) (moF pi we bo st bs od ne (popN x) (moSet st n)) (some (t, w)) := by
    have z := mo_iter hN.1 hmn hx (fun _ _ => rfl) hO hg (6 ^ popN x) 0 (-1, bs, od) none rfl
    rw [iter_fo, show upO none (fo (cand (oC (st 2) pi (trI we bo st ne)) (oN (st 2) pi (trI we bo st ne)) (popN x) x (st 0, st 1)) (6 ^ popN x) 0) = fo (cand (oC (st 2) pi (trI we bo st ne)) (oN (st 2) pi (trI we bo st ne)) (popN x) x (st 0, st 1)) (6 ^ popN x) 0 from rfl, all_bst, eb, ← ex] at z
    exact z
  by_cases hk : jin k (-1) 5 = true
  · rcases jin_k hk with hk1 | ⟨j, hj, hk1⟩
    · have e1 : leI P S (iter (buStep P S) n 0 bu) n 6 (orS S n) S.1 S.2.1 = nI t := by
        rw [eo]
        have z := le_num hN.1 hO1 hbu 6 (popN x) x (S.1, S.2.1) hmn (by decide) rfl hx hg1
        rw [eb1] at z
        exact z
      exact pairJ (show ∀ tl : List AC, CD g 20 mX6_order [.ref 1, .int k] (W1 scr tl lt lc rd sw P D S kk nx ring bu im kept tb tr tc ts) (some (.int (nI t))) (W1 scr tl lt lc rd sw P D S kk nx ring (iter (buStep P S) n 0 bu) im kept tb tr tc ts) from fun tl => C.deeper (by decide) (x_order hP.2.1.1 hN.1 (fun z => (no_f hk z).elim) (fun _ => by rw [e1]; exact ⟨rfl, rfl⟩) (fun j2 hj2 e => absurd (e.symm.trans hk1) (k_m1 hj2)))) (fun pre h2 => ∃ (nw9 : Fn) (od9 : Fn) (bs9 : Fn), h2 = (W2 pre de we da bo be sg pi ru st wa kn mi ik tm to mr tx tn cu sa tk nu wr it sd swt sdd sbx sfl sdi sb sst sp sr (nw9) (od9) (bs9))) (show ∀ pre : List AC, pre.length = 129 → C g 20 0 0 mX7_order [.ref 129, .int k] (W2 pre de we da bo be sg pi ru st wa kn mi ik tm to mr tx tn cu sa tk nu wr it sd swt sdd sbx sfl sdi sb sst sp sr nw od bs) (fun r h2 => r = some (.int (nI t)) ∧ ∃ (nw9 : Fn) (od9 : Fn) (bs9 : Fn), h2 = (W2 pre de we da bo be sg pi ru st wa kn mi ik tm to mr tx tn cu sa tk nu wr it sd swt sdd sbx sfl sdi sb sst sp sr (nw9) (od9) (bs9))) from fun pre hp => C.deeper (by decide) (m_order hp hP.2.1.2 hN.1 hP.1.2 hN.2.1 hmn hmb (fun z => (no_f hk z).elim) (fun nw2 od2 bs2 _ => by rw [hmo.1]; exact ⟨rfl, nw2, od2, bs2, rfl⟩) (fun _ _ _ j2 hj2 e => absurd (e.symm.trans hk1) (k_m1 hj2)))) (fun pre h2 q9 => by
      obtain ⟨nw9, od9, bs9, q9⟩ := q9
      exact ⟨_, _, _, _, _, _, _, _, _, _, _, _, _, _, _, _, _, _, _, _, _, _, _, _, _, _, _, _, _, _, _, _, _, _, _, _, _, (show RelB lt lc P S kk nx ring im kept tb tr tc ts de we da bo be sg pi ru st wa kn mi ik tm to mr tx tn from hR0), q9⟩)
    · have e1 : ioI P S (iter (buStep P S) n 0 bu) n (j + 1) 0 (orS S n) S.1 S.2.1 (-9) = if j < popN x then nI (w.getD j 0) else -9 := by
        rw [eo]
        exact io_num hN.1 hO1 hbu j 0 x (popN x) (S.1, S.2.1) (-9) t w rfl (by omega) hx hg1 eb1
      have e2 : (if j < popN x then (moF pi we bo st bs od ne (popN x) (moSet st n)).2.1 j else -9) = if j < popN x then nI (w.getD j 0) else -9 := by
        by_cases c : j < popN x
        · rw [if_pos c, if_pos c]
          exact hmo.2.2 j c
        · rw [if_neg c, if_neg c]
      have jj : ∀ j2, j2 ≤ 5 → k = nI j2 → j2 = j := fun j2 h2 e => nIi (a := j2) (b := j) (by omega) (by omega) (e.symm.trans hk1)
      exact pairJ (show ∀ tl : List AC, CD g 20 mX6_order [.ref 1, .int k] (W1 scr tl lt lc rd sw P D S kk nx ring bu im kept tb tr tc ts) (some (.int (if j < popN x then nI (w.getD j 0) else -9))) (W1 scr tl lt lc rd sw P D S kk nx ring (iter (buStep P S) n 0 bu) im kept tb tr tc ts) from fun tl => C.deeper (by decide) (x_order hP.2.1.1 hN.1 (fun z => (no_f hk z).elim) (fun e => absurd (hk1.symm.trans e) (k_m1 hj)) (fun j2 hj2 e => by rw [jj j2 hj2 e, e1]; exact ⟨rfl, rfl⟩))) (fun pre h2 => ∃ (nw9 : Fn) (od9 : Fn) (bs9 : Fn), h2 = (W2 pre de we da bo be sg pi ru st wa kn mi ik tm to mr tx tn cu sa tk nu wr it sd swt sdd sbx sfl sdi sb sst sp sr (nw9) (od9) (bs9))) (show ∀ pre : List AC, pre.length = 129 → C g 20 0 0 mX7_order [.ref 129, .int k] (W2 pre de we da bo be sg pi ru st wa kn mi ik tm to mr tx tn cu sa tk nu wr it sd swt sdd sbx sfl sdi sb sst sp sr nw od bs) (fun r h2 => r = some (.int (if j < popN x then nI (w.getD j 0) else -9)) ∧ ∃ (nw9 : Fn) (od9 : Fn) (bs9 : Fn), h2 = (W2 pre de we da bo be sg pi ru st wa kn mi ik tm to mr tx tn cu sa tk nu wr it sd swt sdd sbx sfl sdi sb sst sp sr (nw9) (od9) (bs9))) from fun pre hp => C.deeper (by decide) (m_order hp hP.2.1.2 hN.1 hP.1.2 hN.2.1 hmn hmb (fun z => (no_f hk z).elim) (fun _ _ _ e => absurd (hk1.symm.trans e) (k_m1 hj)) (fun nw2 od2 bs2 j2 hj2 e => by rw [jj j2 hj2 e, e2]; exact ⟨rfl, nw2, od2, bs2, rfl⟩))) (fun pre h2 q9 => by
      obtain ⟨nw9, od9, bs9, q9⟩ := q9
      exact ⟨_, _, _, _, _, _, _, _, _, _, _, _, _, _, _, _, _, _, _, _, _, _, _, _, _, _, _, _, _, _, _, _, _, _, _, _, _, (show RelB lt lc P S kk nx ring im kept tb tr tc ts de we da bo be sg pi ru st wa kn mi ik tm to mr tx tn from hR0), q9⟩)
  · exact pairI (show ∀ tl : List AC, CD g 20 mX6_order [.ref 1, .int k] (W1 scr tl lt lc rd sw P D S kk nx ring bu im kept tb tr tc ts) (some (.int (-1))) (W1 scr tl lt lc rd sw P D S kk nx ring bu im kept tb tr tc ts) from fun tl => C.deeper (by decide) (x_order hP.2.1.1 hN.1 (fun _ => ⟨rfl, rfl⟩) (fun e => absurd (by rw [e]; decide) hk) (fun j hj e => absurd (by rw [e]; exact jin_of (show (-1 : Int32).toInt ≤ (nI j).toInt by rw [nI_tI (by omega)]; show -1 ≤ (j : Int); omega) (show (nI j).toInt ≤ (5 : Int32).toInt by rw [nI_tI (by omega)]; show (j : Int) ≤ 5; omega)) hk))) (show ∀ pre : List AC, pre.length = 129 → CD g 20 mX7_order [.ref 129, .int k] (W2 pre de we da bo be sg pi ru st wa kn mi ik tm to mr tx tn cu sa tk nu wr it sd swt sdd sbx sfl sdi sb sst sp sr nw od bs) (some (.int (-1))) (W2 pre de we da bo be sg pi ru st wa kn mi ik tm to mr tx tn cu sa tk nu wr it sd swt sdd sbx sfl sdi sb sst sp sr nw od bs) from fun pre hp => C.deeper (by decide) (m_order hp hP.2.1.2 hN.1 hP.1.2 hN.2.1 hmn hmb (fun _ => ⟨rfl, rfl⟩) (fun _ _ _ e => absurd (by rw [e]; decide) hk) (fun _ _ _ j hj e => absurd (by rw [e]; exact jin_of (show (-1 : Int32).toInt ≤ (nI j).toInt by rw [nI_tI (by omega)]; show -1 ≤ (j : Int); omega) (show (nI j).toInt ≤ (5 : Int32).toInt by rw [nI_tI (by omega)]; show (j : Int) ≤ 5; omega)) hk))) (show RelB lt lc P S kk nx ring im kept tb tr tc ts de we da bo be sg pi ru st wa kn mi ik tm to mr tx tn from hR0)
end

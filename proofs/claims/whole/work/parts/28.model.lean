/-! the reference's gate -/
section
variable {g : GG} {h : List AC} {Q : Option Value → List AC → Prop} {pre : List AC} {de : Int32} {we : Fn} {da : Int32} {bo : Fn} {be : Int32} {sg : Fn} {pi : Int32} {ru : Int32} {st : Fn} {wa : Fn} {kn : Int32} {im : Fn} {ik : Nat → Bool} {tm : Int32} {to : Fn} {tr : Int64} {tx : Fn} {tn : Int32} {cu : Int32} {sa : Int32} {tk : Int32} {nu : Int32} {wr : Bool} {it : Int32} {sd : Int32} {swt : Fn} {sdd : Int32} {sbx : Fn} {sfl : Fn} {sdi : Fn} {sb : Int32} {sst : Fn} {sp : Int32} {sr : Int32} {nw : Fn} {od : Fn} {bs : Fn}
def glM (tx : Fn) (L : Nat) : Nat → Int32 → MSt → SD → Int32 × MSt × SD
  | 0, i, s, D => (i, s, D)
  | m + 1, i, s, D => if s.2.2.1 = 0 then (i, s, D) else if s.2.2.2.2 = true then (i, s, D) else glM tx L m (i + 1) (itM tx L s D).1 (itM tx L s D).2
theorem glM_ok {tx : Fn} {L : Nat} : ∀ (m : Nat) (i : Int32) (s : MSt) (D : SD), s.1 ≤ L → dOk D → (glM tx L m i s D).2.1.1 ≤ L ∧ dOk (glM tx L m i s D).2.2
  | 0, i, s, D, h, hd => ⟨h, hd⟩
  | m + 1, i, s, D, h, hd => by
    unfold glM
    split
    · exact ⟨h, hd⟩
    · split
      · exact ⟨h, hd⟩
      · exact glM_ok m _ _ _ (itM_step h).1 (itM_ok hd)
def gaM (tx : Fn) (L : Nat) (swt sbx sfl sdi sst : Fn) : Int32 × MSt × SD := glM tx L 151 0 (nextM tx L (0, 0, 0, 0, false)) (0, swt, 0, sbx, sfl, sdi, 0, sst, -1, -1)
def mix (f f2 : Fn) (k : Nat) : Fn := fun i => if i < k then f2 i else f i
theorem mix_s {f f2 : Fn} {k : Nat} : upd (mix f f2 k) k (f2 k) = mix f f2 (k + 1) := by
  funext i
  unfold upd mix
  by_cases e : i = k
  · rw [if_pos e, if_pos (by omega), e]
  · rw [if_neg e]
    by_cases e2 : i < k
    · rw [if_pos e2, if_pos (by omega)]
    · rw [if_neg e2, if_neg (by omega)]
theorem mix0 {f f2 : Fn} : mix f f2 0 = f := by
  funext i
  exact if_neg (Nat.not_lt_zero i)
def stP (st sfl sdi : Fn) (n k : Nat) : Fn := fun i => if 3 ≤ i ∧ i < 3 + k then sfl (i - 3) else if 9 ≤ i ∧ i < 9 + k then (if i - 9 < n then sdi (i - 9) else 0) else if 15 ≤ i ∧ i < 15 + k then -9 else st i
theorem stP0 {st sfl sdi : Fn} {n : Nat} : stP st sfl sdi n 0 = st := by
  funext i
  unfold stP
  rw [if_neg (by omega), if_neg (by omega), if_neg (by omega)]
theorem stP_s {st sfl sdi : Fn} {n k : Nat} (hk : k < 6) : upd (upd (upd (stP st sfl sdi n k) (3 + k) (sfl k)) (9 + k) (if k < n then sdi k else 0)) (15 + k) (-9) = stP st sfl sdi n (k + 1) := by
  funext i
  unfold upd stP
  by_cases e1 : i = 15 + k
  · rw [if_pos e1, if_neg (by omega), if_neg (by omega), if_pos (by omega)]
  · rw [if_neg e1]
    by_cases e2 : i = 9 + k
    · rw [if_pos e2, if_neg (show ¬ (3 ≤ i ∧ i < 3 + (k + 1)) by omega), if_pos (show 9 ≤ i ∧ i < 9 + (k + 1) by omega), show i - 9 = k by omega]
    · rw [if_neg e2]
      by_cases e3 : i = 3 + k
      · rw [if_pos e3, if_pos (by omega), show i - 3 = k by omega]
      · rw [if_neg e3]
        by_cases e4 : 3 ≤ i ∧ i < 3 + k
        · rw [if_pos e4, if_pos (by omega)]
        · rw [if_neg e4, if_neg (show ¬ (3 ≤ i ∧ i < 3 + (k + 1)) by omega)]
          by_cases e5 : 9 ≤ i ∧ i < 9 + k
          · rw [if_pos e5, if_pos (show 9 ≤ i ∧ i < 9 + (k + 1) by omega)]
          · rw [if_neg e5, if_neg (show ¬ (9 ≤ i ∧ i < 9 + (k + 1)) by omega)]
            by_cases e6 : 15 ≤ i ∧ i < 15 + k
            · rw [if_pos e6, if_pos (by omega)]
            · rw [if_neg e6, if_neg (by omega)]
def nil3 (st : Fn) (x : Int32) : Fn := upd (upd (upd st 0 0) 1 0) 2 x
set_option maxRecDepth 20000 in
set_option maxHeartbeats 400000 in
theorem ml_gate (hp : pre.length = 129) {L : Nat} (htn : tn = nI L) (hL : L ≤ 150) (hx : ∀ k, k < L → 0 ≤ tx k) : ∀ (m : Nat) (i : Int32) (s : MSt) (D : SD), s.1 ≤ L → dOk D → (¬ s.2.2.1 = 0 → s.2.2.2.2 = false → L - s.1 < m) → J g mX7_gate 7 0 0 Q (W2 pre de we da bo be sg pi ru st wa kn im ik tm to tr tx tn (nI ((glM tx L m i s D).2.1).1) (nI ((glM tx L m i s D).2.1).2.1) (((glM tx L m i s D).2.1).2.2.1) (((glM tx L m i s D).2.1).2.2.2.1) (((glM tx L m i s D).2.1).2.2.2.2) ((glM tx L m i s D).1) (nI (glM tx L m i s D).2.2.1) ((glM tx L m i s D).2.2.2.1) (nI (glM tx L m i s D).2.2.2.2.1) ((glM tx L m i s D).2.2.2.2.2.1) ((glM tx L m i s D).2.2.2.2.2.2.1) ((glM tx L m i s D).2.2.2.2.2.2.2.1) (nI (glM tx L m i s D).2.2.2.2.2.2.2.2.1) ((glM tx L m i s D).2.2.2.2.2.2.2.2.2.1) ((glM tx L m i s D).2.2.2.2.2.2.2.2.2.2.1) ((glM tx L m i s D).2.2.2.2.2.2.2.2.2.2.2) nw od bs) 75 [some (.ref 129)] [] → J g mX7_gate 7 0 0 Q (W2 pre de we da bo be sg pi ru st wa kn im ik tm to tr tx tn (nI (s).1) (nI (s).2.1) ((s).2.2.1) ((s).2.2.2.1) ((s).2.2.2.2) (i) (nI D.1) (D.2.1) (nI D.2.2.1) (D.2.2.2.1) (D.2.2.2.2.1) (D.2.2.2.2.2.1) (nI D.2.2.2.2.2.2.1) (D.2.2.2.2.2.2.2.1) (D.2.2.2.2.2.2.2.2.1) (D.2.2.2.2.2.2.2.2.2) nw od bs) 44 [some (.ref 129)] [] := by
  intro m
  induction m with
  | zero =>
    intro i s D hs hd hm hq
    refine j_aload_n (pc := 44) dX7_gate_44 rfl ?_
    refine j_getf (pc := 45) dX7_gate_45 fl_X7_95 (by apply lkE; (with_reducible first | exact lkM_129 hp | exact lkM_133 hp | exact lkM_144 hp | exact lkM_134 hp | exact lkM_130 hp | exact lkM_131 hp | exact lkM_132 hp | exact lkM_135 hp | exact lkM_136 hp | exact lkM_137 hp | exact lkM_138 hp | exact lkM_145 hp | exact lkM_146 hp | exact lkM_139 hp | exact lkM_140 hp | exact lkM_141 hp | exact lkM_142 hp | exact lkM_143 hp); rfl) rfl ?_
    refine j_if_eq (pc := 48) (tgt := 75) dX7_gate_48 rfl (fun zc48 => ?_) (fun zc48 => ?_)
    · exact hq
    · refine j_aload_n (pc := 51) dX7_gate_51 rfl ?_
      refine j_getf (pc := 52) dX7_gate_52 fl_X7_102 (by apply lkE; (with_reducible first | exact lkM_129 hp | exact lkM_133 hp | exact lkM_144 hp | exact lkM_134 hp | exact lkM_130 hp | exact lkM_131 hp | exact lkM_132 hp | exact lkM_135 hp | exact lkM_136 hp | exact lkM_137 hp | exact lkM_138 hp | exact lkM_145 hp | exact lkM_146 hp | exact lkM_139 hp | exact lkM_140 hp | exact lkM_141 hp | exact lkM_142 hp | exact lkM_143 hp); rfl) rfl ?_
      refine j_bne (pc := 55) (tgt := 75) dX7_gate_55 rfl (fun zc55 => ?_) (fun zc55 => ?_)
      · exact hq
      · exact absurd (hm zc48 zc55) (Nat.not_lt_zero _)
  | succ m ih =>
    intro i s D hs hd hm hq
    refine j_aload_n (pc := 44) dX7_gate_44 rfl ?_
    refine j_getf (pc := 45) dX7_gate_45 fl_X7_95 (by apply lkE; (with_reducible first | exact lkM_129 hp | exact lkM_133 hp | exact lkM_144 hp | exact lkM_134 hp | exact lkM_130 hp | exact lkM_131 hp | exact lkM_132 hp | exact lkM_135 hp | exact lkM_136 hp | exact lkM_137 hp | exact lkM_138 hp | exact lkM_145 hp | exact lkM_146 hp | exact lkM_139 hp | exact lkM_140 hp | exact lkM_141 hp | exact lkM_142 hp | exact lkM_143 hp); rfl) rfl ?_
    refine j_if_eq (pc := 48) (tgt := 75) dX7_gate_48 rfl (fun zc48 => ?_) (fun zc48 => ?_)
    · first
        | (rw [show glM tx L (m + 1) i s D = (i, s, D) from by rw [glM, if_pos zc48]] at hq
           exact hq)
        | (rw [show glM tx L (m + 1) i s D = (i, s, D) from by rw [glM, if_neg zc48, if_pos zc55]] at hq
           exact hq)
    · refine j_aload_n (pc := 51) dX7_gate_51 rfl ?_
      refine j_getf (pc := 52) dX7_gate_52 fl_X7_102 (by apply lkE; (with_reducible first | exact lkM_129 hp | exact lkM_133 hp | exact lkM_144 hp | exact lkM_134 hp | exact lkM_130 hp | exact lkM_131 hp | exact lkM_132 hp | exact lkM_135 hp | exact lkM_136 hp | exact lkM_137 hp | exact lkM_138 hp | exact lkM_145 hp | exact lkM_146 hp | exact lkM_139 hp | exact lkM_140 hp | exact lkM_141 hp | exact lkM_142 hp | exact lkM_143 hp); rfl) rfl ?_
      refine j_bne (pc := 55) (tgt := 75) dX7_gate_55 rfl (fun zc55 => ?_) (fun zc55 => ?_)
      · first
          | (rw [show glM tx L (m + 1) i s D = (i, s, D) from by rw [glM, if_pos zc48]] at hq
             exact hq)
          | (rw [show glM tx L (m + 1) i s D = (i, s, D) from by rw [glM, if_neg zc48, if_pos zc55]] at hq
             exact hq)
      · refine j_aload_n (pc := 58) dX7_gate_58 rfl ?_
        refine j_v0n (pc := 59) (ci := 7) dX7_gate_59 mc_X7_readItem ml_X7_145 im_X7_readItem se_X7_readItem rfl rfl (by apply lkE; (with_reducible first | exact lkM_129 hp | exact lkM_133 hp | exact lkM_144 hp | exact lkM_134 hp | exact lkM_130 hp | exact lkM_131 hp | exact lkM_132 hp | exact lkM_135 hp | exact lkM_136 hp | exact lkM_137 hp | exact lkM_138 hp | exact lkM_145 hp | exact lkM_146 hp | exact lkM_139 hp | exact lkM_140 hp | exact lkM_141 hp | exact lkM_142 hp | exact lkM_143 hp); rfl) (by omega) (m_item hp htn hL hx hs hd) (Nat.le_of_ble_eq_true rfl) ?_
        refine j_aload_n (pc := 62) dX7_gate_62 rfl ?_
        refine j_dup (pc := 63) dX7_gate_63 rfl ?_
        refine j_getf (pc := 64) dX7_gate_64 fl_X7_142 (by apply lkE; (with_reducible first | exact lkM_129 hp | exact lkM_133 hp | exact lkM_144 hp | exact lkM_134 hp | exact lkM_130 hp | exact lkM_131 hp | exact lkM_132 hp | exact lkM_135 hp | exact lkM_136 hp | exact lkM_137 hp | exact lkM_138 hp | exact lkM_145 hp | exact lkM_146 hp | exact lkM_139 hp | exact lkM_140 hp | exact lkM_141 hp | exact lkM_142 hp | exact lkM_143 hp); rfl) rfl ?_
        refine j_iconst (pc := 67) dX7_gate_67 kc_1 ?_
        refine j_iadd (pc := 68) dX7_gate_68 ?_
        refine j_putf (pc := 69) dX7_gate_69 fl_X7_142 (jfit_i _) (by apply lkE; (with_reducible first | exact lkM_129 hp | exact lkM_133 hp | exact lkM_144 hp | exact lkM_134 hp | exact lkM_130 hp | exact lkM_131 hp | exact lkM_132 hp | exact lkM_135 hp | exact lkM_136 hp | exact lkM_137 hp | exact lkM_138 hp | exact lkM_145 hp | exact lkM_146 hp | exact lkM_139 hp | exact lkM_140 hp | exact lkM_141 hp | exact lkM_142 hp | exact lkM_143 hp); rfl) (upM_129 hp) ?_
        refine j_goto (pc := 72) (tgt := 44) dX7_gate_72 rfl ?_
        have z := itM_step (tx := tx) (D := D) hs
        rw [show glM tx L (m + 1) i s D = glM tx L m (i + 1) (itM tx L s D).1 (itM tx L s D).2 from by rw [glM, if_neg zc48, if_neg (show ¬ s.2.2.2.2 = true from by rw [zc55]; decide)]] at hq
        exact ih (i + 1) (itM tx L s D).1 (itM tx L s D).2 z.1 (itM_ok hd) (fun q1 q2 => lt_step z.1 (z.2 q1 q2) (hm zc48 zc55)) hq

theorem nI_lt2 {a b : Nat} (ha : a < 2 ^ 31) (hb : b < 2 ^ 31) (h : ¬ nI b ≤ nI a) : a < b := by
  by_cases e : a < b
  · exact e
  · exact absurd (nI_le (by omega) (by omega)) h
theorem nI_le2 {a b : Nat} (ha : a < 2 ^ 31) (hb : b < 2 ^ 31) (h : nI b ≤ nI a) : ¬ a < b := fun e => nI_ge e hb h
set_option maxRecDepth 20000 in
set_option maxHeartbeats 200000 in
theorem ml_settle (hp : pre.length = 129) {n : Nat} (hn : n ≤ 6) : ∀ (m k : Nat), k + m = 6 → J g mX7_settles 1 0 0 Q (W2 pre de (mix we swt 6) (nI n) (mix bo sbx 6) be (mix sg sst 6) pi ru (stP st sfl sdi n 6) wa kn im ik tm to tr tx tn cu sa tk nu wr it sd swt sdd sbx sfl sdi sb sst sp sr nw od bs) 189 [some (.ref 129), some (.int (nI 6))] [] → J g mX7_settles 1 0 0 Q (W2 pre de (mix we swt k) (nI n) (mix bo sbx k) be (mix sg sst k) pi ru (stP st sfl sdi n k) wa kn im ik tm to tr tx tn cu sa tk nu wr it sd swt sdd sbx sfl sdi sb sst sp sr nw od bs) 89 [some (.ref 129), some (.int (nI k))] [] := by
  intro m
  induction m with
  | zero =>
    intro k hk hq
    refine j_iload_n (pc := 89) dX7_settles_89 rfl ?_
    refine j_bipush (pc := 90) dX7_settles_90 kb_6 ?_
    refine j_icmp_ge (pc := 92) (tgt := 189) dX7_settles_92 rfl (fun _ => ?_) (fun zc92 => absurd (nI_le (a := 6) (b := k) (by omega) (by omega)) zc92)
    rw [show k = 6 by omega]
    exact hq
  | succ m ih =>
    intro k hk hq
    refine j_iload_n (pc := 89) dX7_settles_89 rfl ?_
    refine j_bipush (pc := 90) dX7_settles_90 kb_6 ?_
    refine j_icmp_ge (pc := 92) (tgt := 189) dX7_settles_92 rfl (fun zc92 => absurd zc92 (nI_ge (a := k) (b := 6) (by omega) (by omega))) (fun _ => ?_)
    refine j_aload_n (pc := 95) dX7_settles_95 rfl ?_
    refine j_getf (pc := 96) dX7_settles_96 fl_X7_7 (by apply lkE; (with_reducible first | exact lkM_129 hp | exact lkM_133 hp | exact lkM_144 hp | exact lkM_134 hp | exact lkM_130 hp | exact lkM_131 hp | exact lkM_132 hp | exact lkM_135 hp | exact lkM_136 hp | exact lkM_137 hp | exact lkM_138 hp | exact lkM_145 hp | exact lkM_146 hp | exact lkM_139 hp | exact lkM_140 hp | exact lkM_141 hp | exact lkM_142 hp | exact lkM_143 hp); rfl) rfl ?_
    refine j_iload_n (pc := 99) dX7_settles_99 rfl ?_
    refine j_aload_n (pc := 100) dX7_settles_100 rfl ?_
    refine j_getf (pc := 101) dX7_settles_101 fl_X7_45 (by apply lkE; (with_reducible first | exact lkM_129 hp | exact lkM_133 hp | exact lkM_144 hp | exact lkM_134 hp | exact lkM_130 hp | exact lkM_131 hp | exact lkM_132 hp | exact lkM_135 hp | exact lkM_136 hp | exact lkM_137 hp | exact lkM_138 hp | exact lkM_145 hp | exact lkM_146 hp | exact lkM_139 hp | exact lkM_140 hp | exact lkM_141 hp | exact lkM_142 hp | exact lkM_143 hp); rfl) rfl ?_
    refine j_iload_n (pc := 104) dX7_settles_104 rfl ?_
    refine j_ialdE (pc := 105) dX7_settles_105 (by apply lkE; (with_reducible first | exact lkM_129 hp | exact lkM_133 hp | exact lkM_144 hp | exact lkM_134 hp | exact lkM_130 hp | exact lkM_131 hp | exact lkM_132 hp | exact lkM_135 hp | exact lkM_136 hp | exact lkM_137 hp | exact lkM_138 hp | exact lkM_145 hp | exact lkM_146 hp | exact lkM_139 hp | exact lkM_140 hp | exact lkM_141 hp | exact lkM_142 hp | exact lkM_143 hp); rfl) rfl rfl (by omega) (by decide) ?_
    refine j_iastE (pc := 106) dX7_settles_106 (by apply lkE; (with_reducible first | exact lkM_129 hp | exact lkM_133 hp | exact lkM_144 hp | exact lkM_134 hp | exact lkM_130 hp | exact lkM_131 hp | exact lkM_132 hp | exact lkM_135 hp | exact lkM_136 hp | exact lkM_137 hp | exact lkM_138 hp | exact lkM_145 hp | exact lkM_146 hp | exact lkM_139 hp | exact lkM_140 hp | exact lkM_141 hp | exact lkM_142 hp | exact lkM_143 hp); rfl) rfl (by omega) (by decide) (upM_130 hp) ?_
    refine j_aload_n (pc := 107) dX7_settles_107 rfl ?_
    refine j_getf (pc := 108) dX7_settles_108 fl_X7_13 (by apply lkE; (with_reducible first | exact lkM_129 hp | exact lkM_133 hp | exact lkM_144 hp | exact lkM_134 hp | exact lkM_130 hp | exact lkM_131 hp | exact lkM_132 hp | exact lkM_135 hp | exact lkM_136 hp | exact lkM_137 hp | exact lkM_138 hp | exact lkM_145 hp | exact lkM_146 hp | exact lkM_139 hp | exact lkM_140 hp | exact lkM_141 hp | exact lkM_142 hp | exact lkM_143 hp); rfl) rfl ?_
    refine j_iload_n (pc := 111) dX7_settles_111 rfl ?_
    refine j_aload_n (pc := 112) dX7_settles_112 rfl ?_
    refine j_getf (pc := 113) dX7_settles_113 fl_X7_48 (by apply lkE; (with_reducible first | exact lkM_129 hp | exact lkM_133 hp | exact lkM_144 hp | exact lkM_134 hp | exact lkM_130 hp | exact lkM_131 hp | exact lkM_132 hp | exact lkM_135 hp | exact lkM_136 hp | exact lkM_137 hp | exact lkM_138 hp | exact lkM_145 hp | exact lkM_146 hp | exact lkM_139 hp | exact lkM_140 hp | exact lkM_141 hp | exact lkM_142 hp | exact lkM_143 hp); rfl) rfl ?_
    refine j_iload_n (pc := 116) dX7_settles_116 rfl ?_
    refine j_ialdE (pc := 117) dX7_settles_117 (by apply lkE; (with_reducible first | exact lkM_129 hp | exact lkM_133 hp | exact lkM_144 hp | exact lkM_134 hp | exact lkM_130 hp | exact lkM_131 hp | exact lkM_132 hp | exact lkM_135 hp | exact lkM_136 hp | exact lkM_137 hp | exact lkM_138 hp | exact lkM_145 hp | exact lkM_146 hp | exact lkM_139 hp | exact lkM_140 hp | exact lkM_141 hp | exact lkM_142 hp | exact lkM_143 hp); rfl) rfl rfl (by omega) (by decide) ?_
    refine j_iastE (pc := 118) dX7_settles_118 (by apply lkE; (with_reducible first | exact lkM_129 hp | exact lkM_133 hp | exact lkM_144 hp | exact lkM_134 hp | exact lkM_130 hp | exact lkM_131 hp | exact lkM_132 hp | exact lkM_135 hp | exact lkM_136 hp | exact lkM_137 hp | exact lkM_138 hp | exact lkM_145 hp | exact lkM_146 hp | exact lkM_139 hp | exact lkM_140 hp | exact lkM_141 hp | exact lkM_142 hp | exact lkM_143 hp); rfl) rfl (by omega) (by decide) (upM_131 hp) ?_
    refine j_aload_n (pc := 119) dX7_settles_119 rfl ?_
    refine j_getf (pc := 120) dX7_settles_120 fl_X7_16 (by apply lkE; (with_reducible first | exact lkM_129 hp | exact lkM_133 hp | exact lkM_144 hp | exact lkM_134 hp | exact lkM_130 hp | exact lkM_131 hp | exact lkM_132 hp | exact lkM_135 hp | exact lkM_136 hp | exact lkM_137 hp | exact lkM_138 hp | exact lkM_145 hp | exact lkM_146 hp | exact lkM_139 hp | exact lkM_140 hp | exact lkM_141 hp | exact lkM_142 hp | exact lkM_143 hp); rfl) rfl ?_
    refine j_iload_n (pc := 123) dX7_settles_123 rfl ?_
    refine j_aload_n (pc := 124) dX7_settles_124 rfl ?_
    refine j_getf (pc := 125) dX7_settles_125 fl_X7_57 (by apply lkE; (with_reducible first | exact lkM_129 hp | exact lkM_133 hp | exact lkM_144 hp | exact lkM_134 hp | exact lkM_130 hp | exact lkM_131 hp | exact lkM_132 hp | exact lkM_135 hp | exact lkM_136 hp | exact lkM_137 hp | exact lkM_138 hp | exact lkM_145 hp | exact lkM_146 hp | exact lkM_139 hp | exact lkM_140 hp | exact lkM_141 hp | exact lkM_142 hp | exact lkM_143 hp); rfl) rfl ?_
    refine j_iload_n (pc := 128) dX7_settles_128 rfl ?_
    refine j_ialdE (pc := 129) dX7_settles_129 (by apply lkE; (with_reducible first | exact lkM_129 hp | exact lkM_133 hp | exact lkM_144 hp | exact lkM_134 hp | exact lkM_130 hp | exact lkM_131 hp | exact lkM_132 hp | exact lkM_135 hp | exact lkM_136 hp | exact lkM_137 hp | exact lkM_138 hp | exact lkM_145 hp | exact lkM_146 hp | exact lkM_139 hp | exact lkM_140 hp | exact lkM_141 hp | exact lkM_142 hp | exact lkM_143 hp); rfl) rfl rfl (by omega) (by decide) ?_
    refine j_iastE (pc := 130) dX7_settles_130 (by apply lkE; (with_reducible first | exact lkM_129 hp | exact lkM_133 hp | exact lkM_144 hp | exact lkM_134 hp | exact lkM_130 hp | exact lkM_131 hp | exact lkM_132 hp | exact lkM_135 hp | exact lkM_136 hp | exact lkM_137 hp | exact lkM_138 hp | exact lkM_145 hp | exact lkM_146 hp | exact lkM_139 hp | exact lkM_140 hp | exact lkM_141 hp | exact lkM_142 hp | exact lkM_143 hp); rfl) rfl (by omega) (by decide) (upM_132 hp) ?_
    refine j_aload_n (pc := 131) dX7_settles_131 rfl ?_
    refine j_getf (pc := 132) dX7_settles_132 fl_X7_26 (by apply lkE; (with_reducible first | exact lkM_129 hp | exact lkM_133 hp | exact lkM_144 hp | exact lkM_134 hp | exact lkM_130 hp | exact lkM_131 hp | exact lkM_132 hp | exact lkM_135 hp | exact lkM_136 hp | exact lkM_137 hp | exact lkM_138 hp | exact lkM_145 hp | exact lkM_146 hp | exact lkM_139 hp | exact lkM_140 hp | exact lkM_141 hp | exact lkM_142 hp | exact lkM_143 hp); rfl) rfl ?_
    refine j_iconst (pc := 135) dX7_settles_135 kc_3 ?_
    refine j_iload_n (pc := 136) dX7_settles_136 rfl ?_
    refine j_iadd (pc := 137) dX7_settles_137 ?_
    refine j_aload_n (pc := 138) dX7_settles_138 rfl ?_
    refine j_getf (pc := 139) dX7_settles_139 fl_X7_51 (by apply lkE; (with_reducible first | exact lkM_129 hp | exact lkM_133 hp | exact lkM_144 hp | exact lkM_134 hp | exact lkM_130 hp | exact lkM_131 hp | exact lkM_132 hp | exact lkM_135 hp | exact lkM_136 hp | exact lkM_137 hp | exact lkM_138 hp | exact lkM_145 hp | exact lkM_146 hp | exact lkM_139 hp | exact lkM_140 hp | exact lkM_141 hp | exact lkM_142 hp | exact lkM_143 hp); rfl) rfl ?_
    refine j_iload_n (pc := 142) dX7_settles_142 rfl ?_
    refine j_ialdE (pc := 143) dX7_settles_143 (by apply lkE; (with_reducible first | exact lkM_129 hp | exact lkM_133 hp | exact lkM_144 hp | exact lkM_134 hp | exact lkM_130 hp | exact lkM_131 hp | exact lkM_132 hp | exact lkM_135 hp | exact lkM_136 hp | exact lkM_137 hp | exact lkM_138 hp | exact lkM_145 hp | exact lkM_146 hp | exact lkM_139 hp | exact lkM_140 hp | exact lkM_141 hp | exact lkM_142 hp | exact lkM_143 hp); rfl) rfl rfl (by omega) (by decide) ?_
    refine j_iastE (pc := 144) dX7_settles_144 (by apply lkE; (with_reducible first | exact lkM_129 hp | exact lkM_133 hp | exact lkM_144 hp | exact lkM_134 hp | exact lkM_130 hp | exact lkM_131 hp | exact lkM_132 hp | exact lkM_135 hp | exact lkM_136 hp | exact lkM_137 hp | exact lkM_138 hp | exact lkM_145 hp | exact lkM_146 hp | exact lkM_139 hp | exact lkM_140 hp | exact lkM_141 hp | exact lkM_142 hp | exact lkM_143 hp); rfl) (nIa 3 k) (by omega) (by decide) (upM_133 hp) ?_
    refine j_aload_n (pc := 145) dX7_settles_145 rfl ?_
    refine j_getf (pc := 146) dX7_settles_146 fl_X7_26 (by apply lkE; (with_reducible first | exact lkM_129 hp | exact lkM_133 hp | exact lkM_144 hp | exact lkM_134 hp | exact lkM_130 hp | exact lkM_131 hp | exact lkM_132 hp | exact lkM_135 hp | exact lkM_136 hp | exact lkM_137 hp | exact lkM_138 hp | exact lkM_145 hp | exact lkM_146 hp | exact lkM_139 hp | exact lkM_140 hp | exact lkM_141 hp | exact lkM_142 hp | exact lkM_143 hp); rfl) rfl ?_
    refine j_bipush (pc := 149) dX7_settles_149 kb_9 ?_
    refine j_iload_n (pc := 151) dX7_settles_151 rfl ?_
    refine j_iadd (pc := 152) dX7_settles_152 ?_
    refine j_iload_n (pc := 153) dX7_settles_153 rfl ?_
    refine j_aload_n (pc := 154) dX7_settles_154 rfl ?_
    refine j_getf (pc := 155) dX7_settles_155 fl_X7_76 (by apply lkE; (with_reducible first | exact lkM_129 hp | exact lkM_133 hp | exact lkM_144 hp | exact lkM_134 hp | exact lkM_130 hp | exact lkM_131 hp | exact lkM_132 hp | exact lkM_135 hp | exact lkM_136 hp | exact lkM_137 hp | exact lkM_138 hp | exact lkM_145 hp | exact lkM_146 hp | exact lkM_139 hp | exact lkM_140 hp | exact lkM_141 hp | exact lkM_142 hp | exact lkM_143 hp); rfl) rfl ?_
    refine j_icmp_ge (pc := 158) (tgt := 170) dX7_settles_158 rfl (fun zc158 => ?_) (fun zc158 => ?_)
    · refine j_iconst (pc := 170) dX7_settles_170 kc_0 ?_
      refine j_iastE (pc := 171) dX7_settles_171 (by apply lkE; (with_reducible first | exact lkM_129 hp | exact lkM_133 hp | exact lkM_144 hp | exact lkM_134 hp | exact lkM_130 hp | exact lkM_131 hp | exact lkM_132 hp | exact lkM_135 hp | exact lkM_136 hp | exact lkM_137 hp | exact lkM_138 hp | exact lkM_145 hp | exact lkM_146 hp | exact lkM_139 hp | exact lkM_140 hp | exact lkM_141 hp | exact lkM_142 hp | exact lkM_143 hp); rfl) (nIa 9 k) (by omega) (by decide) (upM_133 hp) ?_
      refine j_aload_n (pc := 172) dX7_settles_172 rfl ?_
      refine j_getf (pc := 173) dX7_settles_173 fl_X7_26 (by apply lkE; (with_reducible first | exact lkM_129 hp | exact lkM_133 hp | exact lkM_144 hp | exact lkM_134 hp | exact lkM_130 hp | exact lkM_131 hp | exact lkM_132 hp | exact lkM_135 hp | exact lkM_136 hp | exact lkM_137 hp | exact lkM_138 hp | exact lkM_145 hp | exact lkM_146 hp | exact lkM_139 hp | exact lkM_140 hp | exact lkM_141 hp | exact lkM_142 hp | exact lkM_143 hp); rfl) rfl ?_
      refine j_bipush (pc := 176) dX7_settles_176 kb_15 ?_
      refine j_iload_n (pc := 178) dX7_settles_178 rfl ?_
      refine j_iadd (pc := 179) dX7_settles_179 ?_
      refine j_bipush (pc := 180) dX7_settles_180 kb_m9 ?_
      refine j_iastE (pc := 182) dX7_settles_182 (by apply lkE; (with_reducible first | exact lkM_129 hp | exact lkM_133 hp | exact lkM_144 hp | exact lkM_134 hp | exact lkM_130 hp | exact lkM_131 hp | exact lkM_132 hp | exact lkM_135 hp | exact lkM_136 hp | exact lkM_137 hp | exact lkM_138 hp | exact lkM_145 hp | exact lkM_146 hp | exact lkM_139 hp | exact lkM_140 hp | exact lkM_141 hp | exact lkM_142 hp | exact lkM_143 hp); rfl) (nIa 15 k) (by omega) (by decide) (upM_133 hp) ?_
      refine j_iinc (pc := 183) dX7_settles_183 rfl rfl (Nat.le_of_ble_eq_true rfl) rfl ?_
      refine j_goto (pc := 186) (tgt := 89) dX7_settles_186 rfl ?_
      rw [nI_s]
      first
        | (have e : upd (upd (upd (stP st sfl sdi n k) (3 + k) (sfl k)) (9 + k) (sdi k)) (15 + k) (-9) = stP st sfl sdi n (k + 1) := by
             have z := stP_s (st := st) (sfl := sfl) (sdi := sdi) (n := n) (k := k) (by omega)
             rw [if_pos (nI_lt2 (by omega) (by omega) zc158)] at z
             exact z
           rw [mix_s, mix_s, mix_s, e]
           exact ih (k + 1) (by omega) hq)
        | (have e : upd (upd (upd (stP st sfl sdi n k) (3 + k) (sfl k)) (9 + k) 0) (15 + k) (-9) = stP st sfl sdi n (k + 1) := by
             have z := stP_s (st := st) (sfl := sfl) (sdi := sdi) (n := n) (k := k) (by omega)
             rw [if_neg (nI_le2 (by omega) (by omega) zc158)] at z
             exact z
           rw [mix_s, mix_s, mix_s, e]
           exact ih (k + 1) (by omega) hq)
    · refine j_aload_n (pc := 161) dX7_settles_161 rfl ?_
      refine j_getf (pc := 162) dX7_settles_162 fl_X7_54 (by apply lkE; (with_reducible first | exact lkM_129 hp | exact lkM_133 hp | exact lkM_144 hp | exact lkM_134 hp | exact lkM_130 hp | exact lkM_131 hp | exact lkM_132 hp | exact lkM_135 hp | exact lkM_136 hp | exact lkM_137 hp | exact lkM_138 hp | exact lkM_145 hp | exact lkM_146 hp | exact lkM_139 hp | exact lkM_140 hp | exact lkM_141 hp | exact lkM_142 hp | exact lkM_143 hp); rfl) rfl ?_
      refine j_iload_n (pc := 165) dX7_settles_165 rfl ?_
      refine j_ialdE (pc := 166) dX7_settles_166 (by apply lkE; (with_reducible first | exact lkM_129 hp | exact lkM_133 hp | exact lkM_144 hp | exact lkM_134 hp | exact lkM_130 hp | exact lkM_131 hp | exact lkM_132 hp | exact lkM_135 hp | exact lkM_136 hp | exact lkM_137 hp | exact lkM_138 hp | exact lkM_145 hp | exact lkM_146 hp | exact lkM_139 hp | exact lkM_140 hp | exact lkM_141 hp | exact lkM_142 hp | exact lkM_143 hp); rfl) rfl rfl (by omega) (by decide) ?_
      refine j_goto (pc := 167) (tgt := 171) dX7_settles_167 rfl ?_
      refine j_iastE (pc := 171) dX7_settles_171 (by apply lkE; (with_reducible first | exact lkM_129 hp | exact lkM_133 hp | exact lkM_144 hp | exact lkM_134 hp | exact lkM_130 hp | exact lkM_131 hp | exact lkM_132 hp | exact lkM_135 hp | exact lkM_136 hp | exact lkM_137 hp | exact lkM_138 hp | exact lkM_145 hp | exact lkM_146 hp | exact lkM_139 hp | exact lkM_140 hp | exact lkM_141 hp | exact lkM_142 hp | exact lkM_143 hp); rfl) (nIa 9 k) (by omega) (by decide) (upM_133 hp) ?_
      refine j_aload_n (pc := 172) dX7_settles_172 rfl ?_
      refine j_getf (pc := 173) dX7_settles_173 fl_X7_26 (by apply lkE; (with_reducible first | exact lkM_129 hp | exact lkM_133 hp | exact lkM_144 hp | exact lkM_134 hp | exact lkM_130 hp | exact lkM_131 hp | exact lkM_132 hp | exact lkM_135 hp | exact lkM_136 hp | exact lkM_137 hp | exact lkM_138 hp | exact lkM_145 hp | exact lkM_146 hp | exact lkM_139 hp | exact lkM_140 hp | exact lkM_141 hp | exact lkM_142 hp | exact lkM_143 hp); rfl) rfl ?_
      refine j_bipush (pc := 176) dX7_settles_176 kb_15 ?_
      refine j_iload_n (pc := 178) dX7_settles_178 rfl ?_
      refine j_iadd (pc := 179) dX7_settles_179 ?_
      refine j_bipush (pc := 180) dX7_settles_180 kb_m9 ?_
      refine j_iastE (pc := 182) dX7_settles_182 (by apply lkE; (with_reducible first | exact lkM_129 hp | exact lkM_133 hp | exact lkM_144 hp | exact lkM_134 hp | exact lkM_130 hp | exact lkM_131 hp | exact lkM_132 hp | exact lkM_135 hp | exact lkM_136 hp | exact lkM_137 hp | exact lkM_138 hp | exact lkM_145 hp | exact lkM_146 hp | exact lkM_139 hp | exact lkM_140 hp | exact lkM_141 hp | exact lkM_142 hp | exact lkM_143 hp); rfl) (nIa 15 k) (by omega) (by decide) (upM_133 hp) ?_
      refine j_iinc (pc := 183) dX7_settles_183 rfl rfl (Nat.le_of_ble_eq_true rfl) rfl ?_
      refine j_goto (pc := 186) (tgt := 89) dX7_settles_186 rfl ?_
      rw [nI_s]
      first
        | (have e : upd (upd (upd (stP st sfl sdi n k) (3 + k) (sfl k)) (9 + k) (sdi k)) (15 + k) (-9) = stP st sfl sdi n (k + 1) := by
             have z := stP_s (st := st) (sfl := sfl) (sdi := sdi) (n := n) (k := k) (by omega)
             rw [if_pos (nI_lt2 (by omega) (by omega) zc158)] at z
             exact z
           rw [mix_s, mix_s, mix_s, e]
           exact ih (k + 1) (by omega) hq)
        | (have e : upd (upd (upd (stP st sfl sdi n k) (3 + k) (sfl k)) (9 + k) 0) (15 + k) (-9) = stP st sfl sdi n (k + 1) := by
             have z := stP_s (st := st) (sfl := sfl) (sdi := sdi) (n := n) (k := k) (by omega)
             rw [if_neg (nI_le2 (by omega) (by omega) zc158)] at z
             exact z
           rw [mix_s, mix_s, mix_s, e]
           exact ih (k + 1) (by omega) hq)

set_option maxRecDepth 20000 in
set_option maxHeartbeats 200000 in
theorem m_settles (hp : pre.length = 129) {n : Nat} (hn : n ≤ 6) : CD g 1 mX7_settles [.ref 129] (W2 pre de we da bo be sg pi ru st wa kn im ik tm to tr tx tn cu sa tk nu wr it sd swt (nI n) sbx sfl sdi sb sst sp sr nw od bs) none (W2 pre (sd) (mix we swt 6) (nI n) (mix bo sbx 6) (sb) (mix sg sst 6) ((if sp < 0 then 80 else sp)) ((if sr < 0 then 2 else sr)) (stP (nil3 st (if sr < 0 then 2 else sr)) sfl sdi n 6) wa (0) im (updB (updB ik 0 false) 1 false) (0) to tr tx (0) cu sa tk nu wr it sd swt (nI n) sbx sfl sdi sb sst sp sr nw od bs) := by
  refine C.of (by decide +kernel) (by simp [Value.category]) (Nat.le_of_ble_eq_true rfl) ?_
  change J g mX7_settles 1 0 0 _ (W2 pre de we da bo be sg pi ru st wa kn im ik tm to tr tx tn cu sa tk nu wr it sd swt (nI n) sbx sfl sdi sb sst sp sr nw od bs) 0 [some (.ref 129), none] []
  refine j_aload_n (pc := 0) dX7_settles_0 rfl ?_
  refine j_aload_n (pc := 1) dX7_settles_1 rfl ?_
  refine j_getf (pc := 2) dX7_settles_2 fl_X7_116 (by apply lkE; (with_reducible first | exact lkM_129 hp | exact lkM_133 hp | exact lkM_144 hp | exact lkM_134 hp | exact lkM_130 hp | exact lkM_131 hp | exact lkM_132 hp | exact lkM_135 hp | exact lkM_136 hp | exact lkM_137 hp | exact lkM_138 hp | exact lkM_145 hp | exact lkM_146 hp | exact lkM_139 hp | exact lkM_140 hp | exact lkM_141 hp | exact lkM_142 hp | exact lkM_143 hp); rfl) rfl ?_
  refine j_putf (pc := 5) dX7_settles_5 fl_X7_69 (jfit_i _) (by apply lkE; (with_reducible first | exact lkM_129 hp | exact lkM_133 hp | exact lkM_144 hp | exact lkM_134 hp | exact lkM_130 hp | exact lkM_131 hp | exact lkM_132 hp | exact lkM_135 hp | exact lkM_136 hp | exact lkM_137 hp | exact lkM_138 hp | exact lkM_145 hp | exact lkM_146 hp | exact lkM_139 hp | exact lkM_140 hp | exact lkM_141 hp | exact lkM_142 hp | exact lkM_143 hp); rfl) (upM_129 hp) ?_
  refine j_aload_n (pc := 8) dX7_settles_8 rfl ?_
  refine j_aload_n (pc := 9) dX7_settles_9 rfl ?_
  refine j_getf (pc := 10) dX7_settles_10 fl_X7_109 (by apply lkE; (with_reducible first | exact lkM_129 hp | exact lkM_133 hp | exact lkM_144 hp | exact lkM_134 hp | exact lkM_130 hp | exact lkM_131 hp | exact lkM_132 hp | exact lkM_135 hp | exact lkM_136 hp | exact lkM_137 hp | exact lkM_138 hp | exact lkM_145 hp | exact lkM_146 hp | exact lkM_139 hp | exact lkM_140 hp | exact lkM_141 hp | exact lkM_142 hp | exact lkM_143 hp); rfl) rfl ?_
  refine j_putf (pc := 13) dX7_settles_13 fl_X7_76 (jfit_i _) (by apply lkE; (with_reducible first | exact lkM_129 hp | exact lkM_133 hp | exact lkM_144 hp | exact lkM_134 hp | exact lkM_130 hp | exact lkM_131 hp | exact lkM_132 hp | exact lkM_135 hp | exact lkM_136 hp | exact lkM_137 hp | exact lkM_138 hp | exact lkM_145 hp | exact lkM_146 hp | exact lkM_139 hp | exact lkM_140 hp | exact lkM_141 hp | exact lkM_142 hp | exact lkM_143 hp); rfl) (upM_129 hp) ?_
  refine j_aload_n (pc := 16) dX7_settles_16 rfl ?_
  refine j_aload_n (pc := 17) dX7_settles_17 rfl ?_
  refine j_getf (pc := 18) dX7_settles_18 fl_X7_123 (by apply lkE; (with_reducible first | exact lkM_129 hp | exact lkM_133 hp | exact lkM_144 hp | exact lkM_134 hp | exact lkM_130 hp | exact lkM_131 hp | exact lkM_132 hp | exact lkM_135 hp | exact lkM_136 hp | exact lkM_137 hp | exact lkM_138 hp | exact lkM_145 hp | exact lkM_146 hp | exact lkM_139 hp | exact lkM_140 hp | exact lkM_141 hp | exact lkM_142 hp | exact lkM_143 hp); rfl) rfl ?_
  refine j_putf (pc := 21) dX7_settles_21 fl_X7_151 (jfit_i _) (by apply lkE; (with_reducible first | exact lkM_129 hp | exact lkM_133 hp | exact lkM_144 hp | exact lkM_134 hp | exact lkM_130 hp | exact lkM_131 hp | exact lkM_132 hp | exact lkM_135 hp | exact lkM_136 hp | exact lkM_137 hp | exact lkM_138 hp | exact lkM_145 hp | exact lkM_146 hp | exact lkM_139 hp | exact lkM_140 hp | exact lkM_141 hp | exact lkM_142 hp | exact lkM_143 hp); rfl) (upM_129 hp) ?_
  refine j_aload_n (pc := 24) dX7_settles_24 rfl ?_
  refine j_aload_n (pc := 25) dX7_settles_25 rfl ?_
  refine j_getf (pc := 26) dX7_settles_26 fl_X7_126 (by apply lkE; (with_reducible first | exact lkM_129 hp | exact lkM_133 hp | exact lkM_144 hp | exact lkM_134 hp | exact lkM_130 hp | exact lkM_131 hp | exact lkM_132 hp | exact lkM_135 hp | exact lkM_136 hp | exact lkM_137 hp | exact lkM_138 hp | exact lkM_145 hp | exact lkM_146 hp | exact lkM_139 hp | exact lkM_140 hp | exact lkM_141 hp | exact lkM_142 hp | exact lkM_143 hp); rfl) rfl ?_
  refine j_if_ge (pc := 29) (tgt := 37) dX7_settles_29 rfl (fun zc29 => ?_) (fun zc29 => ?_)
  · refine j_aload_n (pc := 37) dX7_settles_37 rfl ?_
    refine j_getf (pc := 38) dX7_settles_38 fl_X7_126 (by apply lkE; (with_reducible first | exact lkM_129 hp | exact lkM_133 hp | exact lkM_144 hp | exact lkM_134 hp | exact lkM_130 hp | exact lkM_131 hp | exact lkM_132 hp | exact lkM_135 hp | exact lkM_136 hp | exact lkM_137 hp | exact lkM_138 hp | exact lkM_145 hp | exact lkM_146 hp | exact lkM_139 hp | exact lkM_140 hp | exact lkM_141 hp | exact lkM_142 hp | exact lkM_143 hp); rfl) rfl ?_
    refine j_putf (pc := 41) dX7_settles_41 fl_X7_19 (jfit_i _) (by apply lkE; (with_reducible first | exact lkM_129 hp | exact lkM_133 hp | exact lkM_144 hp | exact lkM_134 hp | exact lkM_130 hp | exact lkM_131 hp | exact lkM_132 hp | exact lkM_135 hp | exact lkM_136 hp | exact lkM_137 hp | exact lkM_138 hp | exact lkM_145 hp | exact lkM_146 hp | exact lkM_139 hp | exact lkM_140 hp | exact lkM_141 hp | exact lkM_142 hp | exact lkM_143 hp); rfl) (upM_129 hp) ?_
    refine j_aload_n (pc := 44) dX7_settles_44 rfl ?_
    refine j_aload_n (pc := 45) dX7_settles_45 rfl ?_
    refine j_getf (pc := 46) dX7_settles_46 fl_X7_129 (by apply lkE; (with_reducible first | exact lkM_129 hp | exact lkM_133 hp | exact lkM_144 hp | exact lkM_134 hp | exact lkM_130 hp | exact lkM_131 hp | exact lkM_132 hp | exact lkM_135 hp | exact lkM_136 hp | exact lkM_137 hp | exact lkM_138 hp | exact lkM_145 hp | exact lkM_146 hp | exact lkM_139 hp | exact lkM_140 hp | exact lkM_141 hp | exact lkM_142 hp | exact lkM_143 hp); rfl) rfl ?_
    refine j_if_ge (pc := 49) (tgt := 56) dX7_settles_49 rfl (fun zc49 => ?_) (fun zc49 => ?_)
    · refine j_aload_n (pc := 56) dX7_settles_56 rfl ?_
      refine j_getf (pc := 57) dX7_settles_57 fl_X7_129 (by apply lkE; (with_reducible first | exact lkM_129 hp | exact lkM_133 hp | exact lkM_144 hp | exact lkM_134 hp | exact lkM_130 hp | exact lkM_131 hp | exact lkM_132 hp | exact lkM_135 hp | exact lkM_136 hp | exact lkM_137 hp | exact lkM_138 hp | exact lkM_145 hp | exact lkM_146 hp | exact lkM_139 hp | exact lkM_140 hp | exact lkM_141 hp | exact lkM_142 hp | exact lkM_143 hp); rfl) rfl ?_
      refine j_putf (pc := 60) dX7_settles_60 fl_X7_23 (jfit_i _) (by apply lkE; (with_reducible first | exact lkM_129 hp | exact lkM_133 hp | exact lkM_144 hp | exact lkM_134 hp | exact lkM_130 hp | exact lkM_131 hp | exact lkM_132 hp | exact lkM_135 hp | exact lkM_136 hp | exact lkM_137 hp | exact lkM_138 hp | exact lkM_145 hp | exact lkM_146 hp | exact lkM_139 hp | exact lkM_140 hp | exact lkM_141 hp | exact lkM_142 hp | exact lkM_143 hp); rfl) (upM_129 hp) ?_
      refine j_aload_n (pc := 63) dX7_settles_63 rfl ?_
      refine j_getf (pc := 64) dX7_settles_64 fl_X7_26 (by apply lkE; (with_reducible first | exact lkM_129 hp | exact lkM_133 hp | exact lkM_144 hp | exact lkM_134 hp | exact lkM_130 hp | exact lkM_131 hp | exact lkM_132 hp | exact lkM_135 hp | exact lkM_136 hp | exact lkM_137 hp | exact lkM_138 hp | exact lkM_145 hp | exact lkM_146 hp | exact lkM_139 hp | exact lkM_140 hp | exact lkM_141 hp | exact lkM_142 hp | exact lkM_143 hp); rfl) rfl ?_
      refine j_iconst (pc := 67) dX7_settles_67 kc_0 ?_
      refine j_iconst (pc := 68) dX7_settles_68 kc_0 ?_
      refine j_iastE (pc := 69) dX7_settles_69 (by apply lkE; (with_reducible first | exact lkM_129 hp | exact lkM_133 hp | exact lkM_144 hp | exact lkM_134 hp | exact lkM_130 hp | exact lkM_131 hp | exact lkM_132 hp | exact lkM_135 hp | exact lkM_136 hp | exact lkM_137 hp | exact lkM_138 hp | exact lkM_145 hp | exact lkM_146 hp | exact lkM_139 hp | exact lkM_140 hp | exact lkM_141 hp | exact lkM_142 hp | exact lkM_143 hp); rfl) (rfl : (0 : Int32) = nI 0) (by decide) (by decide) (upM_133 hp) ?_
      refine j_aload_n (pc := 70) dX7_settles_70 rfl ?_
      refine j_getf (pc := 71) dX7_settles_71 fl_X7_26 (by apply lkE; (with_reducible first | exact lkM_129 hp | exact lkM_133 hp | exact lkM_144 hp | exact lkM_134 hp | exact lkM_130 hp | exact lkM_131 hp | exact lkM_132 hp | exact lkM_135 hp | exact lkM_136 hp | exact lkM_137 hp | exact lkM_138 hp | exact lkM_145 hp | exact lkM_146 hp | exact lkM_139 hp | exact lkM_140 hp | exact lkM_141 hp | exact lkM_142 hp | exact lkM_143 hp); rfl) rfl ?_
      refine j_iconst (pc := 74) dX7_settles_74 kc_1 ?_
      refine j_iconst (pc := 75) dX7_settles_75 kc_0 ?_
      refine j_iastE (pc := 76) dX7_settles_76 (by apply lkE; (with_reducible first | exact lkM_129 hp | exact lkM_133 hp | exact lkM_144 hp | exact lkM_134 hp | exact lkM_130 hp | exact lkM_131 hp | exact lkM_132 hp | exact lkM_135 hp | exact lkM_136 hp | exact lkM_137 hp | exact lkM_138 hp | exact lkM_145 hp | exact lkM_146 hp | exact lkM_139 hp | exact lkM_140 hp | exact lkM_141 hp | exact lkM_142 hp | exact lkM_143 hp); rfl) (rfl : (1 : Int32) = nI 1) (by decide) (by decide) (upM_133 hp) ?_
      refine j_aload_n (pc := 77) dX7_settles_77 rfl ?_
      refine j_getf (pc := 78) dX7_settles_78 fl_X7_26 (by apply lkE; (with_reducible first | exact lkM_129 hp | exact lkM_133 hp | exact lkM_144 hp | exact lkM_134 hp | exact lkM_130 hp | exact lkM_131 hp | exact lkM_132 hp | exact lkM_135 hp | exact lkM_136 hp | exact lkM_137 hp | exact lkM_138 hp | exact lkM_145 hp | exact lkM_146 hp | exact lkM_139 hp | exact lkM_140 hp | exact lkM_141 hp | exact lkM_142 hp | exact lkM_143 hp); rfl) rfl ?_
      refine j_iconst (pc := 81) dX7_settles_81 kc_2 ?_
      refine j_aload_n (pc := 82) dX7_settles_82 rfl ?_
      refine j_getf (pc := 83) dX7_settles_83 fl_X7_23 (by apply lkE; (with_reducible first | exact lkM_129 hp | exact lkM_133 hp | exact lkM_144 hp | exact lkM_134 hp | exact lkM_130 hp | exact lkM_131 hp | exact lkM_132 hp | exact lkM_135 hp | exact lkM_136 hp | exact lkM_137 hp | exact lkM_138 hp | exact lkM_145 hp | exact lkM_146 hp | exact lkM_139 hp | exact lkM_140 hp | exact lkM_141 hp | exact lkM_142 hp | exact lkM_143 hp); rfl) rfl ?_
      refine j_iastE (pc := 86) dX7_settles_86 (by apply lkE; (with_reducible first | exact lkM_129 hp | exact lkM_133 hp | exact lkM_144 hp | exact lkM_134 hp | exact lkM_130 hp | exact lkM_131 hp | exact lkM_132 hp | exact lkM_135 hp | exact lkM_136 hp | exact lkM_137 hp | exact lkM_138 hp | exact lkM_145 hp | exact lkM_146 hp | exact lkM_139 hp | exact lkM_140 hp | exact lkM_141 hp | exact lkM_142 hp | exact lkM_143 hp); rfl) (rfl : (2 : Int32) = nI 2) (by decide) (by decide) (upM_133 hp) ?_
      refine j_iconst (pc := 87) dX7_settles_87 kc_0 ?_
      refine j_istore_n (pc := 88) dX7_settles_88 rfl (Nat.le_of_ble_eq_true rfl) rfl ?_
      refine j_heap (show (W2 pre (sd) (mix we swt 0) (nI n) (mix bo sbx 0) (sb) (mix sg sst 0) (sp) (sr) (stP (nil3 st (sr)) sfl sdi n 0) wa kn im ik tm to tr tx tn cu sa tk nu wr it sd swt (nI n) sbx sfl sdi sb sst sp sr nw od bs) = _ from by rw [mix0, mix0, mix0, stP0]; rfl) (ml_settle hp hn 6 0 rfl ?_)
      refine j_aload_n (pc := 189) dX7_settles_189 rfl ?_
      refine j_iconst (pc := 190) dX7_settles_190 kc_0 ?_
      refine j_putf (pc := 191) dX7_settles_191 fl_X7_154 (jfit_i _) (by apply lkE; (with_reducible first | exact lkM_129 hp | exact lkM_133 hp | exact lkM_144 hp | exact lkM_134 hp | exact lkM_130 hp | exact lkM_131 hp | exact lkM_132 hp | exact lkM_135 hp | exact lkM_136 hp | exact lkM_137 hp | exact lkM_138 hp | exact lkM_145 hp | exact lkM_146 hp | exact lkM_139 hp | exact lkM_140 hp | exact lkM_141 hp | exact lkM_142 hp | exact lkM_143 hp); rfl) (upM_129 hp) ?_
      refine j_aload_n (pc := 194) dX7_settles_194 rfl ?_
      refine j_iconst (pc := 195) dX7_settles_195 kc_0 ?_
      refine j_putf (pc := 196) dX7_settles_196 fl_X7_157 (jfit_i _) (by apply lkE; (with_reducible first | exact lkM_129 hp | exact lkM_133 hp | exact lkM_144 hp | exact lkM_134 hp | exact lkM_130 hp | exact lkM_131 hp | exact lkM_132 hp | exact lkM_135 hp | exact lkM_136 hp | exact lkM_137 hp | exact lkM_138 hp | exact lkM_145 hp | exact lkM_146 hp | exact lkM_139 hp | exact lkM_140 hp | exact lkM_141 hp | exact lkM_142 hp | exact lkM_143 hp); rfl) (upM_129 hp) ?_
      refine j_aload_n (pc := 199) dX7_settles_199 rfl ?_
      refine j_getf (pc := 200) dX7_settles_200 fl_X7_35 (by apply lkE; (with_reducible first | exact lkM_129 hp | exact lkM_133 hp | exact lkM_144 hp | exact lkM_134 hp | exact lkM_130 hp | exact lkM_131 hp | exact lkM_132 hp | exact lkM_135 hp | exact lkM_136 hp | exact lkM_137 hp | exact lkM_138 hp | exact lkM_145 hp | exact lkM_146 hp | exact lkM_139 hp | exact lkM_140 hp | exact lkM_141 hp | exact lkM_142 hp | exact lkM_143 hp); rfl) rfl ?_
      refine j_iconst (pc := 203) dX7_settles_203 kc_0 ?_
      refine j_iconst (pc := 204) dX7_settles_204 kc_0 ?_
      refine j_zastE (pc := 205) dX7_settles_205 (show (0 : Int32) = b2i false from rfl) (by apply lkE; (with_reducible first | exact lkM_129 hp | exact lkM_133 hp | exact lkM_144 hp | exact lkM_134 hp | exact lkM_130 hp | exact lkM_131 hp | exact lkM_132 hp | exact lkM_135 hp | exact lkM_136 hp | exact lkM_137 hp | exact lkM_138 hp | exact lkM_145 hp | exact lkM_146 hp | exact lkM_139 hp | exact lkM_140 hp | exact lkM_141 hp | exact lkM_142 hp | exact lkM_143 hp); rfl) (rfl : (0 : Int32) = nI 0) (by decide) (by decide) (upM_136 hp) ?_
      refine j_aload_n (pc := 206) dX7_settles_206 rfl ?_
      refine j_getf (pc := 207) dX7_settles_207 fl_X7_35 (by apply lkE; (with_reducible first | exact lkM_129 hp | exact lkM_133 hp | exact lkM_144 hp | exact lkM_134 hp | exact lkM_130 hp | exact lkM_131 hp | exact lkM_132 hp | exact lkM_135 hp | exact lkM_136 hp | exact lkM_137 hp | exact lkM_138 hp | exact lkM_145 hp | exact lkM_146 hp | exact lkM_139 hp | exact lkM_140 hp | exact lkM_141 hp | exact lkM_142 hp | exact lkM_143 hp); rfl) rfl ?_
      refine j_iconst (pc := 210) dX7_settles_210 kc_1 ?_
      refine j_iconst (pc := 211) dX7_settles_211 kc_0 ?_
      refine j_zastE (pc := 212) dX7_settles_212 (show (0 : Int32) = b2i false from rfl) (by apply lkE; (with_reducible first | exact lkM_129 hp | exact lkM_133 hp | exact lkM_144 hp | exact lkM_134 hp | exact lkM_130 hp | exact lkM_131 hp | exact lkM_132 hp | exact lkM_135 hp | exact lkM_136 hp | exact lkM_137 hp | exact lkM_138 hp | exact lkM_145 hp | exact lkM_146 hp | exact lkM_139 hp | exact lkM_140 hp | exact lkM_141 hp | exact lkM_142 hp | exact lkM_143 hp); rfl) (rfl : (1 : Int32) = nI 1) (by decide) (by decide) (upM_136 hp) ?_
      refine j_aload_n (pc := 213) dX7_settles_213 rfl ?_
      refine j_iconst (pc := 214) dX7_settles_214 kc_0 ?_
      refine j_putf (pc := 215) dX7_settles_215 fl_X7_79 (jfit_i _) (by apply lkE; (with_reducible first | exact lkM_129 hp | exact lkM_133 hp | exact lkM_144 hp | exact lkM_134 hp | exact lkM_130 hp | exact lkM_131 hp | exact lkM_132 hp | exact lkM_135 hp | exact lkM_136 hp | exact lkM_137 hp | exact lkM_138 hp | exact lkM_145 hp | exact lkM_146 hp | exact lkM_139 hp | exact lkM_140 hp | exact lkM_141 hp | exact lkM_142 hp | exact lkM_143 hp); rfl) (upM_129 hp) ?_
      refine j_return (pc := 218) dX7_settles_218 rfl ?_
      rw [if_neg (Int32.not_lt.mpr zc29), if_neg (Int32.not_lt.mpr zc49)]
      exact ⟨rfl, rfl⟩
    · refine j_iconst (pc := 52) dX7_settles_52 kc_2 ?_
      refine j_goto (pc := 53) (tgt := 60) dX7_settles_53 rfl ?_
      refine j_putf (pc := 60) dX7_settles_60 fl_X7_23 (jfit_i _) (by apply lkE; (with_reducible first | exact lkM_129 hp | exact lkM_133 hp | exact lkM_144 hp | exact lkM_134 hp | exact lkM_130 hp | exact lkM_131 hp | exact lkM_132 hp | exact lkM_135 hp | exact lkM_136 hp | exact lkM_137 hp | exact lkM_138 hp | exact lkM_145 hp | exact lkM_146 hp | exact lkM_139 hp | exact lkM_140 hp | exact lkM_141 hp | exact lkM_142 hp | exact lkM_143 hp); rfl) (upM_129 hp) ?_
      refine j_aload_n (pc := 63) dX7_settles_63 rfl ?_
      refine j_getf (pc := 64) dX7_settles_64 fl_X7_26 (by apply lkE; (with_reducible first | exact lkM_129 hp | exact lkM_133 hp | exact lkM_144 hp | exact lkM_134 hp | exact lkM_130 hp | exact lkM_131 hp | exact lkM_132 hp | exact lkM_135 hp | exact lkM_136 hp | exact lkM_137 hp | exact lkM_138 hp | exact lkM_145 hp | exact lkM_146 hp | exact lkM_139 hp | exact lkM_140 hp | exact lkM_141 hp | exact lkM_142 hp | exact lkM_143 hp); rfl) rfl ?_
      refine j_iconst (pc := 67) dX7_settles_67 kc_0 ?_
      refine j_iconst (pc := 68) dX7_settles_68 kc_0 ?_
      refine j_iastE (pc := 69) dX7_settles_69 (by apply lkE; (with_reducible first | exact lkM_129 hp | exact lkM_133 hp | exact lkM_144 hp | exact lkM_134 hp | exact lkM_130 hp | exact lkM_131 hp | exact lkM_132 hp | exact lkM_135 hp | exact lkM_136 hp | exact lkM_137 hp | exact lkM_138 hp | exact lkM_145 hp | exact lkM_146 hp | exact lkM_139 hp | exact lkM_140 hp | exact lkM_141 hp | exact lkM_142 hp | exact lkM_143 hp); rfl) (rfl : (0 : Int32) = nI 0) (by decide) (by decide) (upM_133 hp) ?_
      refine j_aload_n (pc := 70) dX7_settles_70 rfl ?_
      refine j_getf (pc := 71) dX7_settles_71 fl_X7_26 (by apply lkE; (with_reducible first | exact lkM_129 hp | exact lkM_133 hp | exact lkM_144 hp | exact lkM_134 hp | exact lkM_130 hp | exact lkM_131 hp | exact lkM_132 hp | exact lkM_135 hp | exact lkM_136 hp | exact lkM_137 hp | exact lkM_138 hp | exact lkM_145 hp | exact lkM_146 hp | exact lkM_139 hp | exact lkM_140 hp | exact lkM_141 hp | exact lkM_142 hp | exact lkM_143 hp); rfl) rfl ?_
      refine j_iconst (pc := 74) dX7_settles_74 kc_1 ?_
      refine j_iconst (pc := 75) dX7_settles_75 kc_0 ?_
      refine j_iastE (pc := 76) dX7_settles_76 (by apply lkE; (with_reducible first | exact lkM_129 hp | exact lkM_133 hp | exact lkM_144 hp | exact lkM_134 hp | exact lkM_130 hp | exact lkM_131 hp | exact lkM_132 hp | exact lkM_135 hp | exact lkM_136 hp | exact lkM_137 hp | exact lkM_138 hp | exact lkM_145 hp | exact lkM_146 hp | exact lkM_139 hp | exact lkM_140 hp | exact lkM_141 hp | exact lkM_142 hp | exact lkM_143 hp); rfl) (rfl : (1 : Int32) = nI 1) (by decide) (by decide) (upM_133 hp) ?_
      refine j_aload_n (pc := 77) dX7_settles_77 rfl ?_
      refine j_getf (pc := 78) dX7_settles_78 fl_X7_26 (by apply lkE; (with_reducible first | exact lkM_129 hp | exact lkM_133 hp | exact lkM_144 hp | exact lkM_134 hp | exact lkM_130 hp | exact lkM_131 hp | exact lkM_132 hp | exact lkM_135 hp | exact lkM_136 hp | exact lkM_137 hp | exact lkM_138 hp | exact lkM_145 hp | exact lkM_146 hp | exact lkM_139 hp | exact lkM_140 hp | exact lkM_141 hp | exact lkM_142 hp | exact lkM_143 hp); rfl) rfl ?_
      refine j_iconst (pc := 81) dX7_settles_81 kc_2 ?_
      refine j_aload_n (pc := 82) dX7_settles_82 rfl ?_
      refine j_getf (pc := 83) dX7_settles_83 fl_X7_23 (by apply lkE; (with_reducible first | exact lkM_129 hp | exact lkM_133 hp | exact lkM_144 hp | exact lkM_134 hp | exact lkM_130 hp | exact lkM_131 hp | exact lkM_132 hp | exact lkM_135 hp | exact lkM_136 hp | exact lkM_137 hp | exact lkM_138 hp | exact lkM_145 hp | exact lkM_146 hp | exact lkM_139 hp | exact lkM_140 hp | exact lkM_141 hp | exact lkM_142 hp | exact lkM_143 hp); rfl) rfl ?_
      refine j_iastE (pc := 86) dX7_settles_86 (by apply lkE; (with_reducible first | exact lkM_129 hp | exact lkM_133 hp | exact lkM_144 hp | exact lkM_134 hp | exact lkM_130 hp | exact lkM_131 hp | exact lkM_132 hp | exact lkM_135 hp | exact lkM_136 hp | exact lkM_137 hp | exact lkM_138 hp | exact lkM_145 hp | exact lkM_146 hp | exact lkM_139 hp | exact lkM_140 hp | exact lkM_141 hp | exact lkM_142 hp | exact lkM_143 hp); rfl) (rfl : (2 : Int32) = nI 2) (by decide) (by decide) (upM_133 hp) ?_
      refine j_iconst (pc := 87) dX7_settles_87 kc_0 ?_
      refine j_istore_n (pc := 88) dX7_settles_88 rfl (Nat.le_of_ble_eq_true rfl) rfl ?_
      refine j_heap (show (W2 pre (sd) (mix we swt 0) (nI n) (mix bo sbx 0) (sb) (mix sg sst 0) (sp) (2) (stP (nil3 st (2)) sfl sdi n 0) wa kn im ik tm to tr tx tn cu sa tk nu wr it sd swt (nI n) sbx sfl sdi sb sst sp sr nw od bs) = _ from by rw [mix0, mix0, mix0, stP0]; rfl) (ml_settle hp hn 6 0 rfl ?_)
      refine j_aload_n (pc := 189) dX7_settles_189 rfl ?_
      refine j_iconst (pc := 190) dX7_settles_190 kc_0 ?_
      refine j_putf (pc := 191) dX7_settles_191 fl_X7_154 (jfit_i _) (by apply lkE; (with_reducible first | exact lkM_129 hp | exact lkM_133 hp | exact lkM_144 hp | exact lkM_134 hp | exact lkM_130 hp | exact lkM_131 hp | exact lkM_132 hp | exact lkM_135 hp | exact lkM_136 hp | exact lkM_137 hp | exact lkM_138 hp | exact lkM_145 hp | exact lkM_146 hp | exact lkM_139 hp | exact lkM_140 hp | exact lkM_141 hp | exact lkM_142 hp | exact lkM_143 hp); rfl) (upM_129 hp) ?_
      refine j_aload_n (pc := 194) dX7_settles_194 rfl ?_
      refine j_iconst (pc := 195) dX7_settles_195 kc_0 ?_
      refine j_putf (pc := 196) dX7_settles_196 fl_X7_157 (jfit_i _) (by apply lkE; (with_reducible first | exact lkM_129 hp | exact lkM_133 hp | exact lkM_144 hp | exact lkM_134 hp | exact lkM_130 hp | exact lkM_131 hp | exact lkM_132 hp | exact lkM_135 hp | exact lkM_136 hp | exact lkM_137 hp | exact lkM_138 hp | exact lkM_145 hp | exact lkM_146 hp | exact lkM_139 hp | exact lkM_140 hp | exact lkM_141 hp | exact lkM_142 hp | exact lkM_143 hp); rfl) (upM_129 hp) ?_
      refine j_aload_n (pc := 199) dX7_settles_199 rfl ?_
      refine j_getf (pc := 200) dX7_settles_200 fl_X7_35 (by apply lkE; (with_reducible first | exact lkM_129 hp | exact lkM_133 hp | exact lkM_144 hp | exact lkM_134 hp | exact lkM_130 hp | exact lkM_131 hp | exact lkM_132 hp | exact lkM_135 hp | exact lkM_136 hp | exact lkM_137 hp | exact lkM_138 hp | exact lkM_145 hp | exact lkM_146 hp | exact lkM_139 hp | exact lkM_140 hp | exact lkM_141 hp | exact lkM_142 hp | exact lkM_143 hp); rfl) rfl ?_
      refine j_iconst (pc := 203) dX7_settles_203 kc_0 ?_
      refine j_iconst (pc := 204) dX7_settles_204 kc_0 ?_
      refine j_zastE (pc := 205) dX7_settles_205 (show (0 : Int32) = b2i false from rfl) (by apply lkE; (with_reducible first | exact lkM_129 hp | exact lkM_133 hp | exact lkM_144 hp | exact lkM_134 hp | exact lkM_130 hp | exact lkM_131 hp | exact lkM_132 hp | exact lkM_135 hp | exact lkM_136 hp | exact lkM_137 hp | exact lkM_138 hp | exact lkM_145 hp | exact lkM_146 hp | exact lkM_139 hp | exact lkM_140 hp | exact lkM_141 hp | exact lkM_142 hp | exact lkM_143 hp); rfl) (rfl : (0 : Int32) = nI 0) (by decide) (by decide) (upM_136 hp) ?_
      refine j_aload_n (pc := 206) dX7_settles_206 rfl ?_
      refine j_getf (pc := 207) dX7_settles_207 fl_X7_35 (by apply lkE; (with_reducible first | exact lkM_129 hp | exact lkM_133 hp | exact lkM_144 hp | exact lkM_134 hp | exact lkM_130 hp | exact lkM_131 hp | exact lkM_132 hp | exact lkM_135 hp | exact lkM_136 hp | exact lkM_137 hp | exact lkM_138 hp | exact lkM_145 hp | exact lkM_146 hp | exact lkM_139 hp | exact lkM_140 hp | exact lkM_141 hp | exact lkM_142 hp | exact lkM_143 hp); rfl) rfl ?_
      refine j_iconst (pc := 210) dX7_settles_210 kc_1 ?_
      refine j_iconst (pc := 211) dX7_settles_211 kc_0 ?_
      refine j_zastE (pc := 212) dX7_settles_212 (show (0 : Int32) = b2i false from rfl) (by apply lkE; (with_reducible first | exact lkM_129 hp | exact lkM_133 hp | exact lkM_144 hp | exact lkM_134 hp | exact lkM_130 hp | exact lkM_131 hp | exact lkM_132 hp | exact lkM_135 hp | exact lkM_136 hp | exact lkM_137 hp | exact lkM_138 hp | exact lkM_145 hp | exact lkM_146 hp | exact lkM_139 hp | exact lkM_140 hp | exact lkM_141 hp | exact lkM_142 hp | exact lkM_143 hp); rfl) (rfl : (1 : Int32) = nI 1) (by decide) (by decide) (upM_136 hp) ?_
      refine j_aload_n (pc := 213) dX7_settles_213 rfl ?_
      refine j_iconst (pc := 214) dX7_settles_214 kc_0 ?_
      refine j_putf (pc := 215) dX7_settles_215 fl_X7_79 (jfit_i _) (by apply lkE; (with_reducible first | exact lkM_129 hp | exact lkM_133 hp | exact lkM_144 hp | exact lkM_134 hp | exact lkM_130 hp | exact lkM_131 hp | exact lkM_132 hp | exact lkM_135 hp | exact lkM_136 hp | exact lkM_137 hp | exact lkM_138 hp | exact lkM_145 hp | exact lkM_146 hp | exact lkM_139 hp | exact lkM_140 hp | exact lkM_141 hp | exact lkM_142 hp | exact lkM_143 hp); rfl) (upM_129 hp) ?_
      refine j_return (pc := 218) dX7_settles_218 rfl ?_
      rw [if_neg (Int32.not_lt.mpr zc29), if_pos (Int32.not_le.mp zc49)]
      exact ⟨rfl, rfl⟩
  · refine j_bipush (pc := 32) dX7_settles_32 kb_80 ?_
    refine j_goto (pc := 34) (tgt := 41) dX7_settles_34 rfl ?_
    refine j_putf (pc := 41) dX7_settles_41 fl_X7_19 (jfit_i _) (by apply lkE; (with_reducible first | exact lkM_129 hp | exact lkM_133 hp | exact lkM_144 hp | exact lkM_134 hp | exact lkM_130 hp | exact lkM_131 hp | exact lkM_132 hp | exact lkM_135 hp | exact lkM_136 hp | exact lkM_137 hp | exact lkM_138 hp | exact lkM_145 hp | exact lkM_146 hp | exact lkM_139 hp | exact lkM_140 hp | exact lkM_141 hp | exact lkM_142 hp | exact lkM_143 hp); rfl) (upM_129 hp) ?_
    refine j_aload_n (pc := 44) dX7_settles_44 rfl ?_
    refine j_aload_n (pc := 45) dX7_settles_45 rfl ?_
    refine j_getf (pc := 46) dX7_settles_46 fl_X7_129 (by apply lkE; (with_reducible first | exact lkM_129 hp | exact lkM_133 hp | exact lkM_144 hp | exact lkM_134 hp | exact lkM_130 hp | exact lkM_131 hp | exact lkM_132 hp | exact lkM_135 hp | exact lkM_136 hp | exact lkM_137 hp | exact lkM_138 hp | exact lkM_145 hp | exact lkM_146 hp | exact lkM_139 hp | exact lkM_140 hp | exact lkM_141 hp | exact lkM_142 hp | exact lkM_143 hp); rfl) rfl ?_
    refine j_if_ge (pc := 49) (tgt := 56) dX7_settles_49 rfl (fun zc49 => ?_) (fun zc49 => ?_)
    · refine j_aload_n (pc := 56) dX7_settles_56 rfl ?_
      refine j_getf (pc := 57) dX7_settles_57 fl_X7_129 (by apply lkE; (with_reducible first | exact lkM_129 hp | exact lkM_133 hp | exact lkM_144 hp | exact lkM_134 hp | exact lkM_130 hp | exact lkM_131 hp | exact lkM_132 hp | exact lkM_135 hp | exact lkM_136 hp | exact lkM_137 hp | exact lkM_138 hp | exact lkM_145 hp | exact lkM_146 hp | exact lkM_139 hp | exact lkM_140 hp | exact lkM_141 hp | exact lkM_142 hp | exact lkM_143 hp); rfl) rfl ?_
      refine j_putf (pc := 60) dX7_settles_60 fl_X7_23 (jfit_i _) (by apply lkE; (with_reducible first | exact lkM_129 hp | exact lkM_133 hp | exact lkM_144 hp | exact lkM_134 hp | exact lkM_130 hp | exact lkM_131 hp | exact lkM_132 hp | exact lkM_135 hp | exact lkM_136 hp | exact lkM_137 hp | exact lkM_138 hp | exact lkM_145 hp | exact lkM_146 hp | exact lkM_139 hp | exact lkM_140 hp | exact lkM_141 hp | exact lkM_142 hp | exact lkM_143 hp); rfl) (upM_129 hp) ?_
      refine j_aload_n (pc := 63) dX7_settles_63 rfl ?_
      refine j_getf (pc := 64) dX7_settles_64 fl_X7_26 (by apply lkE; (with_reducible first | exact lkM_129 hp | exact lkM_133 hp | exact lkM_144 hp | exact lkM_134 hp | exact lkM_130 hp | exact lkM_131 hp | exact lkM_132 hp | exact lkM_135 hp | exact lkM_136 hp | exact lkM_137 hp | exact lkM_138 hp | exact lkM_145 hp | exact lkM_146 hp | exact lkM_139 hp | exact lkM_140 hp | exact lkM_141 hp | exact lkM_142 hp | exact lkM_143 hp); rfl) rfl ?_
      refine j_iconst (pc := 67) dX7_settles_67 kc_0 ?_
      refine j_iconst (pc := 68) dX7_settles_68 kc_0 ?_
      refine j_iastE (pc := 69) dX7_settles_69 (by apply lkE; (with_reducible first | exact lkM_129 hp | exact lkM_133 hp | exact lkM_144 hp | exact lkM_134 hp | exact lkM_130 hp | exact lkM_131 hp | exact lkM_132 hp | exact lkM_135 hp | exact lkM_136 hp | exact lkM_137 hp | exact lkM_138 hp | exact lkM_145 hp | exact lkM_146 hp | exact lkM_139 hp | exact lkM_140 hp | exact lkM_141 hp | exact lkM_142 hp | exact lkM_143 hp); rfl) (rfl : (0 : Int32) = nI 0) (by decide) (by decide) (upM_133 hp) ?_
      refine j_aload_n (pc := 70) dX7_settles_70 rfl ?_
      refine j_getf (pc := 71) dX7_settles_71 fl_X7_26 (by apply lkE; (with_reducible first | exact lkM_129 hp | exact lkM_133 hp | exact lkM_144 hp | exact lkM_134 hp | exact lkM_130 hp | exact lkM_131 hp | exact lkM_132 hp | exact lkM_135 hp | exact lkM_136 hp | exact lkM_137 hp | exact lkM_138 hp | exact lkM_145 hp | exact lkM_146 hp | exact lkM_139 hp | exact lkM_140 hp | exact lkM_141 hp | exact lkM_142 hp | exact lkM_143 hp); rfl) rfl ?_
      refine j_iconst (pc := 74) dX7_settles_74 kc_1 ?_
      refine j_iconst (pc := 75) dX7_settles_75 kc_0 ?_
      refine j_iastE (pc := 76) dX7_settles_76 (by apply lkE; (with_reducible first | exact lkM_129 hp | exact lkM_133 hp | exact lkM_144 hp | exact lkM_134 hp | exact lkM_130 hp | exact lkM_131 hp | exact lkM_132 hp | exact lkM_135 hp | exact lkM_136 hp | exact lkM_137 hp | exact lkM_138 hp | exact lkM_145 hp | exact lkM_146 hp | exact lkM_139 hp | exact lkM_140 hp | exact lkM_141 hp | exact lkM_142 hp | exact lkM_143 hp); rfl) (rfl : (1 : Int32) = nI 1) (by decide) (by decide) (upM_133 hp) ?_
      refine j_aload_n (pc := 77) dX7_settles_77 rfl ?_
      refine j_getf (pc := 78) dX7_settles_78 fl_X7_26 (by apply lkE; (with_reducible first | exact lkM_129 hp | exact lkM_133 hp | exact lkM_144 hp | exact lkM_134 hp | exact lkM_130 hp | exact lkM_131 hp | exact lkM_132 hp | exact lkM_135 hp | exact lkM_136 hp | exact lkM_137 hp | exact lkM_138 hp | exact lkM_145 hp | exact lkM_146 hp | exact lkM_139 hp | exact lkM_140 hp | exact lkM_141 hp | exact lkM_142 hp | exact lkM_143 hp); rfl) rfl ?_
      refine j_iconst (pc := 81) dX7_settles_81 kc_2 ?_
      refine j_aload_n (pc := 82) dX7_settles_82 rfl ?_
      refine j_getf (pc := 83) dX7_settles_83 fl_X7_23 (by apply lkE; (with_reducible first | exact lkM_129 hp | exact lkM_133 hp | exact lkM_144 hp | exact lkM_134 hp | exact lkM_130 hp | exact lkM_131 hp | exact lkM_132 hp | exact lkM_135 hp | exact lkM_136 hp | exact lkM_137 hp | exact lkM_138 hp | exact lkM_145 hp | exact lkM_146 hp | exact lkM_139 hp | exact lkM_140 hp | exact lkM_141 hp | exact lkM_142 hp | exact lkM_143 hp); rfl) rfl ?_
      refine j_iastE (pc := 86) dX7_settles_86 (by apply lkE; (with_reducible first | exact lkM_129 hp | exact lkM_133 hp | exact lkM_144 hp | exact lkM_134 hp | exact lkM_130 hp | exact lkM_131 hp | exact lkM_132 hp | exact lkM_135 hp | exact lkM_136 hp | exact lkM_137 hp | exact lkM_138 hp | exact lkM_145 hp | exact lkM_146 hp | exact lkM_139 hp | exact lkM_140 hp | exact lkM_141 hp | exact lkM_142 hp | exact lkM_143 hp); rfl) (rfl : (2 : Int32) = nI 2) (by decide) (by decide) (upM_133 hp) ?_
      refine j_iconst (pc := 87) dX7_settles_87 kc_0 ?_
      refine j_istore_n (pc := 88) dX7_settles_88 rfl (Nat.le_of_ble_eq_true rfl) rfl ?_
      refine j_heap (show (W2 pre (sd) (mix we swt 0) (nI n) (mix bo sbx 0) (sb) (mix sg sst 0) (80) (sr) (stP (nil3 st (sr)) sfl sdi n 0) wa kn im ik tm to tr tx tn cu sa tk nu wr it sd swt (nI n) sbx sfl sdi sb sst sp sr nw od bs) = _ from by rw [mix0, mix0, mix0, stP0]; rfl) (ml_settle hp hn 6 0 rfl ?_)
      refine j_aload_n (pc := 189) dX7_settles_189 rfl ?_
      refine j_iconst (pc := 190) dX7_settles_190 kc_0 ?_
      refine j_putf (pc := 191) dX7_settles_191 fl_X7_154 (jfit_i _) (by apply lkE; (with_reducible first | exact lkM_129 hp | exact lkM_133 hp | exact lkM_144 hp | exact lkM_134 hp | exact lkM_130 hp | exact lkM_131 hp | exact lkM_132 hp | exact lkM_135 hp | exact lkM_136 hp | exact lkM_137 hp | exact lkM_138 hp | exact lkM_145 hp | exact lkM_146 hp | exact lkM_139 hp | exact lkM_140 hp | exact lkM_141 hp | exact lkM_142 hp | exact lkM_143 hp); rfl) (upM_129 hp) ?_
      refine j_aload_n (pc := 194) dX7_settles_194 rfl ?_
      refine j_iconst (pc := 195) dX7_settles_195 kc_0 ?_
      refine j_putf (pc := 196) dX7_settles_196 fl_X7_157 (jfit_i _) (by apply lkE; (with_reducible first | exact lkM_129 hp | exact lkM_133 hp | exact lkM_144 hp | exact lkM_134 hp | exact lkM_130 hp | exact lkM_131 hp | exact lkM_132 hp | exact lkM_135 hp | exact lkM_136 hp | exact lkM_137 hp | exact lkM_138 hp | exact lkM_145 hp | exact lkM_146 hp | exact lkM_139 hp | exact lkM_140 hp | exact lkM_141 hp | exact lkM_142 hp | exact lkM_143 hp); rfl) (upM_129 hp) ?_
      refine j_aload_n (pc := 199) dX7_settles_199 rfl ?_
      refine j_getf (pc := 200) dX7_settles_200 fl_X7_35 (by apply lkE; (with_reducible first | exact lkM_129 hp | exact lkM_133 hp | exact lkM_144 hp | exact lkM_134 hp | exact lkM_130 hp | exact lkM_131 hp | exact lkM_132 hp | exact lkM_135 hp | exact lkM_136 hp | exact lkM_137 hp | exact lkM_138 hp | exact lkM_145 hp | exact lkM_146 hp | exact lkM_139 hp | exact lkM_140 hp | exact lkM_141 hp | exact lkM_142 hp | exact lkM_143 hp); rfl) rfl ?_
      refine j_iconst (pc := 203) dX7_settles_203 kc_0 ?_
      refine j_iconst (pc := 204) dX7_settles_204 kc_0 ?_
      refine j_zastE (pc := 205) dX7_settles_205 (show (0 : Int32) = b2i false from rfl) (by apply lkE; (with_reducible first | exact lkM_129 hp | exact lkM_133 hp | exact lkM_144 hp | exact lkM_134 hp | exact lkM_130 hp | exact lkM_131 hp | exact lkM_132 hp | exact lkM_135 hp | exact lkM_136 hp | exact lkM_137 hp | exact lkM_138 hp | exact lkM_145 hp | exact lkM_146 hp | exact lkM_139 hp | exact lkM_140 hp | exact lkM_141 hp | exact lkM_142 hp | exact lkM_143 hp); rfl) (rfl : (0 : Int32) = nI 0) (by decide) (by decide) (upM_136 hp) ?_
      refine j_aload_n (pc := 206) dX7_settles_206 rfl ?_
      refine j_getf (pc := 207) dX7_settles_207 fl_X7_35 (by apply lkE; (with_reducible first | exact lkM_129 hp | exact lkM_133 hp | exact lkM_144 hp | exact lkM_134 hp | exact lkM_130 hp | exact lkM_131 hp | exact lkM_132 hp | exact lkM_135 hp | exact lkM_136 hp | exact lkM_137 hp | exact lkM_138 hp | exact lkM_145 hp | exact lkM_146 hp | exact lkM_139 hp | exact lkM_140 hp | exact lkM_141 hp | exact lkM_142 hp | exact lkM_143 hp); rfl) rfl ?_
      refine j_iconst (pc := 210) dX7_settles_210 kc_1 ?_
      refine j_iconst (pc := 211) dX7_settles_211 kc_0 ?_
      refine j_zastE (pc := 212) dX7_settles_212 (show (0 : Int32) = b2i false from rfl) (by apply lkE; (with_reducible first | exact lkM_129 hp | exact lkM_133 hp | exact lkM_144 hp | exact lkM_134 hp | exact lkM_130 hp | exact lkM_131 hp | exact lkM_132 hp | exact lkM_135 hp | exact lkM_136 hp | exact lkM_137 hp | exact lkM_138 hp | exact lkM_145 hp | exact lkM_146 hp | exact lkM_139 hp | exact lkM_140 hp | exact lkM_141 hp | exact lkM_142 hp | exact lkM_143 hp); rfl) (rfl : (1 : Int32) = nI 1) (by decide) (by decide) (upM_136 hp) ?_
      refine j_aload_n (pc := 213) dX7_settles_213 rfl ?_
      refine j_iconst (pc := 214) dX7_settles_214 kc_0 ?_
      refine j_putf (pc := 215) dX7_settles_215 fl_X7_79 (jfit_i _) (by apply lkE; (with_reducible first | exact lkM_129 hp | exact lkM_133 hp | exact lkM_144 hp | exact lkM_134 hp | exact lkM_130 hp | exact lkM_131 hp | exact lkM_132 hp | exact lkM_135 hp | exact lkM_136 hp | exact lkM_137 hp | exact lkM_138 hp | exact lkM_145 hp | exact lkM_146 hp | exact lkM_139 hp | exact lkM_140 hp | exact lkM_141 hp | exact lkM_142 hp | exact lkM_143 hp); rfl) (upM_129 hp) ?_
      refine j_return (pc := 218) dX7_settles_218 rfl ?_
      rw [if_pos (Int32.not_le.mp zc29), if_neg (Int32.not_lt.mpr zc49)]
      exact ⟨rfl, rfl⟩
    · refine j_iconst (pc := 52) dX7_settles_52 kc_2 ?_
      refine j_goto (pc := 53) (tgt := 60) dX7_settles_53 rfl ?_
      refine j_putf (pc := 60) dX7_settles_60 fl_X7_23 (jfit_i _) (by apply lkE; (with_reducible first | exact lkM_129 hp | exact lkM_133 hp | exact lkM_144 hp | exact lkM_134 hp | exact lkM_130 hp | exact lkM_131 hp | exact lkM_132 hp | exact lkM_135 hp | exact lkM_136 hp | exact lkM_137 hp | exact lkM_138 hp | exact lkM_145 hp | exact lkM_146 hp | exact lkM_139 hp | exact lkM_140 hp | exact lkM_141 hp | exact lkM_142 hp | exact lkM_143 hp); rfl) (upM_129 hp) ?_
      refine j_aload_n (pc := 63) dX7_settles_63 rfl ?_
      refine j_getf (pc := 64) dX7_settles_64 fl_X7_26 (by apply lkE; (with_reducible first | exact lkM_129 hp | exact lkM_133 hp | exact lkM_144 hp | exact lkM_134 hp | exact lkM_130 hp | exact lkM_131 hp | exact lkM_132 hp | exact lkM_135 hp | exact lkM_136 hp | exact lkM_137 hp | exact lkM_138 hp | exact lkM_145 hp | exact lkM_146 hp | exact lkM_139 hp | exact lkM_140 hp | exact lkM_141 hp | exact lkM_142 hp | exact lkM_143 hp); rfl) rfl ?_
      refine j_iconst (pc := 67) dX7_settles_67 kc_0 ?_
      refine j_iconst (pc := 68) dX7_settles_68 kc_0 ?_
      refine j_iastE (pc := 69) dX7_settles_69 (by apply lkE; (with_reducible first | exact lkM_129 hp | exact lkM_133 hp | exact lkM_144 hp | exact lkM_134 hp | exact lkM_130 hp | exact lkM_131 hp | exact lkM_132 hp | exact lkM_135 hp | exact lkM_136 hp | exact lkM_137 hp | exact lkM_138 hp | exact lkM_145 hp | exact lkM_146 hp | exact lkM_139 hp | exact lkM_140 hp | exact lkM_141 hp | exact lkM_142 hp | exact lkM_143 hp); rfl) (rfl : (0 : Int32) = nI 0) (by decide) (by decide) (upM_133 hp) ?_
      refine j_aload_n (pc := 70) dX7_settles_70 rfl ?_
      refine j_getf (pc := 71) dX7_settles_71 fl_X7_26 (by apply lkE; (with_reducible first | exact lkM_129 hp | exact lkM_133 hp | exact lkM_144 hp | exact lkM_134 hp | exact lkM_130 hp | exact lkM_131 hp | exact lkM_132 hp | exact lkM_135 hp | exact lkM_136 hp | exact lkM_137 hp | exact lkM_138 hp | exact lkM_145 hp | exact lkM_146 hp | exact lkM_139 hp | exact lkM_140 hp | exact lkM_141 hp | exact lkM_142 hp | exact lkM_143 hp); rfl) rfl ?_
      refine j_iconst (pc := 74) dX7_settles_74 kc_1 ?_
      refine j_iconst (pc := 75) dX7_settles_75 kc_0 ?_
      refine j_iastE (pc := 76) dX7_settles_76 (by apply lkE; (with_reducible first | exact lkM_129 hp | exact lkM_133 hp | exact lkM_144 hp | exact lkM_134 hp | exact lkM_130 hp | exact lkM_131 hp | exact lkM_132 hp | exact lkM_135 hp | exact lkM_136 hp | exact lkM_137 hp | exact lkM_138 hp | exact lkM_145 hp | exact lkM_146 hp | exact lkM_139 hp | exact lkM_140 hp | exact lkM_141 hp | exact lkM_142 hp | exact lkM_143 hp); rfl) (rfl : (1 : Int32) = nI 1) (by decide) (by decide) (upM_133 hp) ?_
      refine j_aload_n (pc := 77) dX7_settles_77 rfl ?_
      refine j_getf (pc := 78) dX7_settles_78 fl_X7_26 (by apply lkE; (with_reducible first | exact lkM_129 hp | exact lkM_133 hp | exact lkM_144 hp | exact lkM_134 hp | exact lkM_130 hp | exact lkM_131 hp | exact lkM_132 hp | exact lkM_135 hp | exact lkM_136 hp | exact lkM_137 hp | exact lkM_138 hp | exact lkM_145 hp | exact lkM_146 hp | exact lkM_139 hp | exact lkM_140 hp | exact lkM_141 hp | exact lkM_142 hp | exact lkM_143 hp); rfl) rfl ?_
      refine j_iconst (pc := 81) dX7_settles_81 kc_2 ?_
      refine j_aload_n (pc := 82) dX7_settles_82 rfl ?_
      refine j_getf (pc := 83) dX7_settles_83 fl_X7_23 (by apply lkE; (with_reducible first | exact lkM_129 hp | exact lkM_133 hp | exact lkM_144 hp | exact lkM_134 hp | exact lkM_130 hp | exact lkM_131 hp | exact lkM_132 hp | exact lkM_135 hp | exact lkM_136 hp | exact lkM_137 hp | exact lkM_138 hp | exact lkM_145 hp | exact lkM_146 hp | exact lkM_139 hp | exact lkM_140 hp | exact lkM_141 hp | exact lkM_142 hp | exact lkM_143 hp); rfl) rfl ?_
      refine j_iastE (pc := 86) dX7_settles_86 (by apply lkE; (with_reducible first | exact lkM_129 hp | exact lkM_133 hp | exact lkM_144 hp | exact lkM_134 hp | exact lkM_130 hp | exact lkM_131 hp | exact lkM_132 hp | exact lkM_135 hp | exact lkM_136 hp | exact lkM_137 hp | exact lkM_138 hp | exact lkM_145 hp | exact lkM_146 hp | exact lkM_139 hp | exact lkM_140 hp | exact lkM_141 hp | exact lkM_142 hp | exact lkM_143 hp); rfl) (rfl : (2 : Int32) = nI 2) (by decide) (by decide) (upM_133 hp) ?_
      refine j_iconst (pc := 87) dX7_settles_87 kc_0 ?_
      refine j_istore_n (pc := 88) dX7_settles_88 rfl (Nat.le_of_ble_eq_true rfl) rfl ?_
      refine j_heap (show (W2 pre (sd) (mix we swt 0) (nI n) (mix bo sbx 0) (sb) (mix sg sst 0) (80) (2) (stP (nil3 st (2)) sfl sdi n 0) wa kn im ik tm to tr tx tn cu sa tk nu wr it sd swt (nI n) sbx sfl sdi sb sst sp sr nw od bs) = _ from by rw [mix0, mix0, mix0, stP0]; rfl) (ml_settle hp hn 6 0 rfl ?_)
      refine j_aload_n (pc := 189) dX7_settles_189 rfl ?_
      refine j_iconst (pc := 190) dX7_settles_190 kc_0 ?_
      refine j_putf (pc := 191) dX7_settles_191 fl_X7_154 (jfit_i _) (by apply lkE; (with_reducible first | exact lkM_129 hp | exact lkM_133 hp | exact lkM_144 hp | exact lkM_134 hp | exact lkM_130 hp | exact lkM_131 hp | exact lkM_132 hp | exact lkM_135 hp | exact lkM_136 hp | exact lkM_137 hp | exact lkM_138 hp | exact lkM_145 hp | exact lkM_146 hp | exact lkM_139 hp | exact lkM_140 hp | exact lkM_141 hp | exact lkM_142 hp | exact lkM_143 hp); rfl) (upM_129 hp) ?_
      refine j_aload_n (pc := 194) dX7_settles_194 rfl ?_
      refine j_iconst (pc := 195) dX7_settles_195 kc_0 ?_
      refine j_putf (pc := 196) dX7_settles_196 fl_X7_157 (jfit_i _) (by apply lkE; (with_reducible first | exact lkM_129 hp | exact lkM_133 hp | exact lkM_144 hp | exact lkM_134 hp | exact lkM_130 hp | exact lkM_131 hp | exact lkM_132 hp | exact lkM_135 hp | exact lkM_136 hp | exact lkM_137 hp | exact lkM_138 hp | exact lkM_145 hp | exact lkM_146 hp | exact lkM_139 hp | exact lkM_140 hp | exact lkM_141 hp | exact lkM_142 hp | exact lkM_143 hp); rfl) (upM_129 hp) ?_
      refine j_aload_n (pc := 199) dX7_settles_199 rfl ?_
      refine j_getf (pc := 200) dX7_settles_200 fl_X7_35 (by apply lkE; (with_reducible first | exact lkM_129 hp | exact lkM_133 hp | exact lkM_144 hp | exact lkM_134 hp | exact lkM_130 hp | exact lkM_131 hp | exact lkM_132 hp | exact lkM_135 hp | exact lkM_136 hp | exact lkM_137 hp | exact lkM_138 hp | exact lkM_145 hp | exact lkM_146 hp | exact lkM_139 hp | exact lkM_140 hp | exact lkM_141 hp | exact lkM_142 hp | exact lkM_143 hp); rfl) rfl ?_
      refine j_iconst (pc := 203) dX7_settles_203 kc_0 ?_
      refine j_iconst (pc := 204) dX7_settles_204 kc_0 ?_
      refine j_zastE (pc := 205) dX7_settles_205 (show (0 : Int32) = b2i false from rfl) (by apply lkE; (with_reducible first | exact lkM_129 hp | exact lkM_133 hp | exact lkM_144 hp | exact lkM_134 hp | exact lkM_130 hp | exact lkM_131 hp | exact lkM_132 hp | exact lkM_135 hp | exact lkM_136 hp | exact lkM_137 hp | exact lkM_138 hp | exact lkM_145 hp | exact lkM_146 hp | exact lkM_139 hp | exact lkM_140 hp | exact lkM_141 hp | exact lkM_142 hp | exact lkM_143 hp); rfl) (rfl : (0 : Int32) = nI 0) (by decide) (by decide) (upM_136 hp) ?_
      refine j_aload_n (pc := 206) dX7_settles_206 rfl ?_
      refine j_getf (pc := 207) dX7_settles_207 fl_X7_35 (by apply lkE; (with_reducible first | exact lkM_129 hp | exact lkM_133 hp | exact lkM_144 hp | exact lkM_134 hp | exact lkM_130 hp | exact lkM_131 hp | exact lkM_132 hp | exact lkM_135 hp | exact lkM_136 hp | exact lkM_137 hp | exact lkM_138 hp | exact lkM_145 hp | exact lkM_146 hp | exact lkM_139 hp | exact lkM_140 hp | exact lkM_141 hp | exact lkM_142 hp | exact lkM_143 hp); rfl) rfl ?_
      refine j_iconst (pc := 210) dX7_settles_210 kc_1 ?_
      refine j_iconst (pc := 211) dX7_settles_211 kc_0 ?_
      refine j_zastE (pc := 212) dX7_settles_212 (show (0 : Int32) = b2i false from rfl) (by apply lkE; (with_reducible first | exact lkM_129 hp | exact lkM_133 hp | exact lkM_144 hp | exact lkM_134 hp | exact lkM_130 hp | exact lkM_131 hp | exact lkM_132 hp | exact lkM_135 hp | exact lkM_136 hp | exact lkM_137 hp | exact lkM_138 hp | exact lkM_145 hp | exact lkM_146 hp | exact lkM_139 hp | exact lkM_140 hp | exact lkM_141 hp | exact lkM_142 hp | exact lkM_143 hp); rfl) (rfl : (1 : Int32) = nI 1) (by decide) (by decide) (upM_136 hp) ?_
      refine j_aload_n (pc := 213) dX7_settles_213 rfl ?_
      refine j_iconst (pc := 214) dX7_settles_214 kc_0 ?_
      refine j_putf (pc := 215) dX7_settles_215 fl_X7_79 (jfit_i _) (by apply lkE; (with_reducible first | exact lkM_129 hp | exact lkM_133 hp | exact lkM_144 hp | exact lkM_134 hp | exact lkM_130 hp | exact lkM_131 hp | exact lkM_132 hp | exact lkM_135 hp | exact lkM_136 hp | exact lkM_137 hp | exact lkM_138 hp | exact lkM_145 hp | exact lkM_146 hp | exact lkM_139 hp | exact lkM_140 hp | exact lkM_141 hp | exact lkM_142 hp | exact lkM_143 hp); rfl) (upM_129 hp) ?_
      refine j_return (pc := 218) dX7_settles_218 rfl ?_
      rw [if_pos (Int32.not_le.mp zc29), if_pos (Int32.not_le.mp zc49)]
      exact ⟨rfl, rfl⟩

set_option maxRecDepth 20000 in
set_option maxHeartbeats 200000 in
theorem m_gate (hp : pre.length = 129) {L : Nat} (htn : tn = nI L) (hL : L ≤ 150) (hx : ∀ k, k < L → 0 ≤ tx k) (h1 : (gaM tx L swt sbx sfl sdi sst).2.1.2.2.2.2 = true → Q (some (.int (-10 - nI (gaM tx L swt sbx sfl sdi sst).2.1.2.1))) (W2 pre de we da bo be sg pi ru st wa kn im ik tm to tr tx tn (nI ((gaM tx L swt sbx sfl sdi sst).2.1).1) (nI ((gaM tx L swt sbx sfl sdi sst).2.1).2.1) (((gaM tx L swt sbx sfl sdi sst).2.1).2.2.1) (((gaM tx L swt sbx sfl sdi sst).2.1).2.2.2.1) (((gaM tx L swt sbx sfl sdi sst).2.1).2.2.2.2) ((gaM tx L swt sbx sfl sdi sst).1) (nI (gaM tx L swt sbx sfl sdi sst).2.2.1) ((gaM tx L swt sbx sfl sdi sst).2.2.2.1) (nI (gaM tx L swt sbx sfl sdi sst).2.2.2.2.1) ((gaM tx L swt sbx sfl sdi sst).2.2.2.2.2.1) ((gaM tx L swt sbx sfl sdi sst).2.2.2.2.2.2.1) ((gaM tx L swt sbx sfl sdi sst).2.2.2.2.2.2.2.1) (nI (gaM tx L swt sbx sfl sdi sst).2.2.2.2.2.2.2.2.1) ((gaM tx L swt sbx sfl sdi sst).2.2.2.2.2.2.2.2.2.1) ((gaM tx L swt sbx sfl sdi sst).2.2.2.2.2.2.2.2.2.2.1) ((gaM tx L swt sbx sfl sdi sst).2.2.2.2.2.2.2.2.2.2.2) nw od bs)) (h2 : (gaM tx L swt sbx sfl sdi sst).2.1.2.2.2.2 = false → Q (some (.int (gaM tx L swt sbx sfl sdi sst).1)) (W2 pre (nI (gaM tx L swt sbx sfl sdi sst).2.2.1) (mix we (gaM tx L swt sbx sfl sdi sst).2.2.2.1 6) (nI (gaM tx L swt sbx sfl sdi sst).2.2.2.2.1) (mix bo (gaM tx L swt sbx sfl sdi sst).2.2.2.2.2.1 6) (nI (gaM tx L swt sbx sfl sdi sst).2.2.2.2.2.2.2.2.1) (mix sg (gaM tx L swt sbx sfl sdi sst).2.2.2.2.2.2.2.2.2.1 6) ((if (gaM tx L swt sbx sfl sdi sst).2.2.2.2.2.2.2.2.2.2.1 < 0 then 80 else (gaM tx L swt sbx sfl sdi sst).2.2.2.2.2.2.2.2.2.2.1)) ((if (gaM tx L swt sbx sfl sdi sst).2.2.2.2.2.2.2.2.2.2.2 < 0 then 2 else (gaM tx L swt sbx sfl sdi sst).2.2.2.2.2.2.2.2.2.2.2)) (stP (nil3 st (if (gaM tx L swt sbx sfl sdi sst).2.2.2.2.2.2.2.2.2.2.2 < 0 then 2 else (gaM tx L swt sbx sfl sdi sst).2.2.2.2.2.2.2.2.2.2.2)) (gaM tx L swt sbx sfl sdi sst).2.2.2.2.2.2.1 (gaM tx L swt sbx sfl sdi sst).2.2.2.2.2.2.2.1 (gaM tx L swt sbx sfl sdi sst).2.2.2.2.1 6) wa (0) im (updB (updB ik 0 false) 1 false) (0) to tr tx (0) (nI ((gaM tx L swt sbx sfl sdi sst).2.1).1) (nI ((gaM tx L swt sbx sfl sdi sst).2.1).2.1) (((gaM tx L swt sbx sfl sdi sst).2.1).2.2.1) (((gaM tx L swt sbx sfl sdi sst).2.1).2.2.2.1) (((gaM tx L swt sbx sfl sdi sst).2.1).2.2.2.2) ((gaM tx L swt sbx sfl sdi sst).1) (nI (gaM tx L swt sbx sfl sdi sst).2.2.1) ((gaM tx L swt sbx sfl sdi sst).2.2.2.1) (nI (gaM tx L swt sbx sfl sdi sst).2.2.2.2.1) ((gaM tx L swt sbx sfl sdi sst).2.2.2.2.2.1) ((gaM tx L swt sbx sfl sdi sst).2.2.2.2.2.2.1) ((gaM tx L swt sbx sfl sdi sst).2.2.2.2.2.2.2.1) (nI (gaM tx L swt sbx sfl sdi sst).2.2.2.2.2.2.2.2.1) ((gaM tx L swt sbx sfl sdi sst).2.2.2.2.2.2.2.2.2.1) ((gaM tx L swt sbx sfl sdi sst).2.2.2.2.2.2.2.2.2.2.1) ((gaM tx L swt sbx sfl sdi sst).2.2.2.2.2.2.2.2.2.2.2) nw od bs)) : C g 7 0 0 mX7_gate [.ref 129] (W2 pre de we da bo be sg pi ru st wa kn im ik tm to tr tx tn cu sa tk nu wr it sd swt sdd sbx sfl sdi sb sst sp sr nw od bs) Q := by
  refine C.of (by decide +kernel) (by simp [Value.category]) (Nat.le_of_ble_eq_true rfl) ?_
  change J g mX7_gate 7 0 0 _ (W2 pre de we da bo be sg pi ru st wa kn im ik tm to tr tx tn cu sa tk nu wr it sd swt sdd sbx sfl sdi sb sst sp sr nw od bs) 0 [some (.ref 129)] []
  refine j_aload_n (pc := 0) dX7_gate_0 rfl ?_
  refine j_iconst (pc := 1) dX7_gate_1 kc_0 ?_
  refine j_putf (pc := 2) dX7_gate_2 fl_X7_82 (jfit_i _) (by apply lkE; (with_reducible first | exact lkM_129 hp | exact lkM_133 hp | exact lkM_144 hp | exact lkM_134 hp | exact lkM_130 hp | exact lkM_131 hp | exact lkM_132 hp | exact lkM_135 hp | exact lkM_136 hp | exact lkM_137 hp | exact lkM_138 hp | exact lkM_145 hp | exact lkM_146 hp | exact lkM_139 hp | exact lkM_140 hp | exact lkM_141 hp | exact lkM_142 hp | exact lkM_143 hp); rfl) (upM_129 hp) ?_
  refine j_aload_n (pc := 5) dX7_gate_5 rfl ?_
  refine j_iconst (pc := 6) dX7_gate_6 kc_0 ?_
  refine j_putf (pc := 7) dX7_gate_7 fl_X7_102 (jfit_z false) (by apply lkE; (with_reducible first | exact lkM_129 hp | exact lkM_133 hp | exact lkM_144 hp | exact lkM_134 hp | exact lkM_130 hp | exact lkM_131 hp | exact lkM_132 hp | exact lkM_135 hp | exact lkM_136 hp | exact lkM_137 hp | exact lkM_138 hp | exact lkM_145 hp | exact lkM_146 hp | exact lkM_139 hp | exact lkM_140 hp | exact lkM_141 hp | exact lkM_142 hp | exact lkM_143 hp); rfl) (upM_129 (wr2 := false) hp) ?_
  refine j_aload_n (pc := 10) dX7_gate_10 rfl ?_
  refine j_iconst (pc := 11) dX7_gate_11 kc_0 ?_
  refine j_putf (pc := 12) dX7_gate_12 fl_X7_142 (jfit_i _) (by apply lkE; (with_reducible first | exact lkM_129 hp | exact lkM_133 hp | exact lkM_144 hp | exact lkM_134 hp | exact lkM_130 hp | exact lkM_131 hp | exact lkM_132 hp | exact lkM_135 hp | exact lkM_136 hp | exact lkM_137 hp | exact lkM_138 hp | exact lkM_145 hp | exact lkM_146 hp | exact lkM_139 hp | exact lkM_140 hp | exact lkM_141 hp | exact lkM_142 hp | exact lkM_143 hp); rfl) (upM_129 hp) ?_
  refine j_aload_n (pc := 15) dX7_gate_15 rfl ?_
  refine j_iconst (pc := 16) dX7_gate_16 kc_0 ?_
  refine j_putf (pc := 17) dX7_gate_17 fl_X7_116 (jfit_i _) (by apply lkE; (with_reducible first | exact lkM_129 hp | exact lkM_133 hp | exact lkM_144 hp | exact lkM_134 hp | exact lkM_130 hp | exact lkM_131 hp | exact lkM_132 hp | exact lkM_135 hp | exact lkM_136 hp | exact lkM_137 hp | exact lkM_138 hp | exact lkM_145 hp | exact lkM_146 hp | exact lkM_139 hp | exact lkM_140 hp | exact lkM_141 hp | exact lkM_142 hp | exact lkM_143 hp); rfl) (upM_129 hp) ?_
  refine j_aload_n (pc := 20) dX7_gate_20 rfl ?_
  refine j_iconst (pc := 21) dX7_gate_21 kc_0 ?_
  refine j_putf (pc := 22) dX7_gate_22 fl_X7_109 (jfit_i _) (by apply lkE; (with_reducible first | exact lkM_129 hp | exact lkM_133 hp | exact lkM_144 hp | exact lkM_134 hp | exact lkM_130 hp | exact lkM_131 hp | exact lkM_132 hp | exact lkM_135 hp | exact lkM_136 hp | exact lkM_137 hp | exact lkM_138 hp | exact lkM_145 hp | exact lkM_146 hp | exact lkM_139 hp | exact lkM_140 hp | exact lkM_141 hp | exact lkM_142 hp | exact lkM_143 hp); rfl) (upM_129 hp) ?_
  refine j_aload_n (pc := 25) dX7_gate_25 rfl ?_
  refine j_iconst (pc := 26) dX7_gate_26 kc_0 ?_
  refine j_putf (pc := 27) dX7_gate_27 fl_X7_123 (jfit_i _) (by apply lkE; (with_reducible first | exact lkM_129 hp | exact lkM_133 hp | exact lkM_144 hp | exact lkM_134 hp | exact lkM_130 hp | exact lkM_131 hp | exact lkM_132 hp | exact lkM_135 hp | exact lkM_136 hp | exact lkM_137 hp | exact lkM_138 hp | exact lkM_145 hp | exact lkM_146 hp | exact lkM_139 hp | exact lkM_140 hp | exact lkM_141 hp | exact lkM_142 hp | exact lkM_143 hp); rfl) (upM_129 hp) ?_
  refine j_aload_n (pc := 30) dX7_gate_30 rfl ?_
  refine j_iconst (pc := 31) dX7_gate_31 kc_m1 ?_
  refine j_putf (pc := 32) dX7_gate_32 fl_X7_126 (jfit_i _) (by apply lkE; (with_reducible first | exact lkM_129 hp | exact lkM_133 hp | exact lkM_144 hp | exact lkM_134 hp | exact lkM_130 hp | exact lkM_131 hp | exact lkM_132 hp | exact lkM_135 hp | exact lkM_136 hp | exact lkM_137 hp | exact lkM_138 hp | exact lkM_145 hp | exact lkM_146 hp | exact lkM_139 hp | exact lkM_140 hp | exact lkM_141 hp | exact lkM_142 hp | exact lkM_143 hp); rfl) (upM_129 hp) ?_
  refine j_aload_n (pc := 35) dX7_gate_35 rfl ?_
  refine j_iconst (pc := 36) dX7_gate_36 kc_m1 ?_
  refine j_putf (pc := 37) dX7_gate_37 fl_X7_129 (jfit_i _) (by apply lkE; (with_reducible first | exact lkM_129 hp | exact lkM_133 hp | exact lkM_144 hp | exact lkM_134 hp | exact lkM_130 hp | exact lkM_131 hp | exact lkM_132 hp | exact lkM_135 hp | exact lkM_136 hp | exact lkM_137 hp | exact lkM_138 hp | exact lkM_145 hp | exact lkM_146 hp | exact lkM_139 hp | exact lkM_140 hp | exact lkM_141 hp | exact lkM_142 hp | exact lkM_143 hp); rfl) (upM_129 hp) ?_
  refine j_aload_n (pc := 40) dX7_gate_40 rfl ?_
  refine j_v0n (pc := 41) (ci := 7) dX7_gate_41 mc_X7_next ml_X7_106 im_X7_next se_X7_next rfl rfl (by apply lkE; (with_reducible first | exact lkM_129 hp | exact lkM_133 hp | exact lkM_144 hp | exact lkM_134 hp | exact lkM_130 hp | exact lkM_131 hp | exact lkM_132 hp | exact lkM_135 hp | exact lkM_136 hp | exact lkM_137 hp | exact lkM_138 hp | exact lkM_145 hp | exact lkM_146 hp | exact lkM_139 hp | exact lkM_140 hp | exact lkM_141 hp | exact lkM_142 hp | exact lkM_143 hp); rfl) (by omega) (m_nextG hp htn hL hx (c := 0) (Nat.zero_le L)) (Nat.le_of_ble_eq_true rfl) ?_
  have z := glM_ok (tx := tx) (L := L) 151 0 (nextM tx L (0, 0, 0, 0, false)) (0, swt, 0, sbx, sfl, sdi, 0, sst, -1, -1) (nextM_ok (Nat.zero_le L)).1 ⟨Nat.zero_le 6, Nat.zero_le 6, Nat.zero_le 6⟩
  have hs : (gaM tx L swt sbx sfl sdi sst).2.1.1 ≤ L := z.1
  have hd : dOk (gaM tx L swt sbx sfl sdi sst).2.2 := z.2
  refine ml_gate hp htn hL hx 151 0 (nextM tx L (0, 0, 0, 0, false)) (0, swt, 0, sbx, sfl, sdi, 0, sst, -1, -1) (nextM_ok (Nat.zero_le L)).1 ⟨Nat.zero_le 6, Nat.zero_le 6, Nat.zero_le 6⟩ (fun _ _ => by omega) ?_
  rw [show glM tx L 151 0 (nextM tx L (0, 0, 0, 0, false)) (0, swt, 0, sbx, sfl, sdi, 0, sst, -1, -1) = gaM tx L swt sbx sfl sdi sst from rfl]
  refine j_aload_n (pc := 75) dX7_gate_75 rfl ?_
  refine j_getf (pc := 76) dX7_gate_76 fl_X7_102 (by apply lkE; (with_reducible first | exact lkM_129 hp | exact lkM_133 hp | exact lkM_144 hp | exact lkM_134 hp | exact lkM_130 hp | exact lkM_131 hp | exact lkM_132 hp | exact lkM_135 hp | exact lkM_136 hp | exact lkM_137 hp | exact lkM_138 hp | exact lkM_145 hp | exact lkM_146 hp | exact lkM_139 hp | exact lkM_140 hp | exact lkM_141 hp | exact lkM_142 hp | exact lkM_143 hp); rfl) rfl ?_
  refine j_beq (pc := 79) (tgt := 90) dX7_gate_79 rfl (fun zc79 => ?_) (fun zc79 => ?_)
  · refine j_aload_n (pc := 90) dX7_gate_90 rfl ?_
    refine j_v0n (pc := 91) (ci := 7) dX7_gate_91 mc_X7_settles ml_X7_148 im_X7_settles se_X7_settles rfl rfl (by apply lkE; (with_reducible first | exact lkM_129 hp | exact lkM_133 hp | exact lkM_144 hp | exact lkM_134 hp | exact lkM_130 hp | exact lkM_131 hp | exact lkM_132 hp | exact lkM_135 hp | exact lkM_136 hp | exact lkM_137 hp | exact lkM_138 hp | exact lkM_145 hp | exact lkM_146 hp | exact lkM_139 hp | exact lkM_140 hp | exact lkM_141 hp | exact lkM_142 hp | exact lkM_143 hp); rfl) (by omega) (m_settles hp hd.2.1) (Nat.le_of_ble_eq_true rfl) ?_
    refine j_aload_n (pc := 94) dX7_gate_94 rfl ?_
    refine j_getf (pc := 95) dX7_gate_95 fl_X7_142 (by apply lkE; (with_reducible first | exact lkM_129 hp | exact lkM_133 hp | exact lkM_144 hp | exact lkM_134 hp | exact lkM_130 hp | exact lkM_131 hp | exact lkM_132 hp | exact lkM_135 hp | exact lkM_136 hp | exact lkM_137 hp | exact lkM_138 hp | exact lkM_145 hp | exact lkM_146 hp | exact lkM_139 hp | exact lkM_140 hp | exact lkM_141 hp | exact lkM_142 hp | exact lkM_143 hp); rfl) rfl ?_
    refine j_ireturn (pc := 98) dX7_gate_98 rfl ?_
    exact h2 zc79
  · refine j_bipush (pc := 82) dX7_gate_82 kb_m10 ?_
    refine j_aload_n (pc := 84) dX7_gate_84 rfl ?_
    refine j_getf (pc := 85) dX7_gate_85 fl_X7_89 (by apply lkE; (with_reducible first | exact lkM_129 hp | exact lkM_133 hp | exact lkM_144 hp | exact lkM_134 hp | exact lkM_130 hp | exact lkM_131 hp | exact lkM_132 hp | exact lkM_135 hp | exact lkM_136 hp | exact lkM_137 hp | exact lkM_138 hp | exact lkM_145 hp | exact lkM_146 hp | exact lkM_139 hp | exact lkM_140 hp | exact lkM_141 hp | exact lkM_142 hp | exact lkM_143 hp); rfl) rfl ?_
    refine j_isub (pc := 88) dX7_gate_88 ?_
    refine j_ireturn (pc := 89) dX7_gate_89 rfl ?_
    exact h1 zc79

end

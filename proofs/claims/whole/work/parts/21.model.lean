/-! the reference: the simple calls -/
section
variable {g : GG} {h : List AC} {Q : Option Value → List AC → Prop} {pre : List AC} {de : Int32} {we : Fn} {da : Int32} {bo : Fn} {be : Int32} {sg : Fn} {pi : Int32} {ru : Int32} {st : Fn} {wa : Fn} {kn : Int32} {im : Fn} {ik : Nat → Bool} {tm : Int32} {to : Fn} {tr : Int64} {tx : Fn} {tn : Int32} {cu : Int32} {sa : Int32} {tk : Int32} {nu : Int32} {wr : Bool} {it : Int32} {sd : Int32} {swt : Fn} {sdd : Int32} {sbx : Fn} {sfl : Fn} {sdi : Fn} {sb : Int32} {sst : Fn} {sp : Int32} {sr : Int32} {nw : Fn} {od : Fn} {bs : Fn}
theorem mul21 {q : Nat} (h : q ≤ 10) : (21 : Int32) * nI q = nI (21 * q) := by
  have : q = 0 ∨ q = 1 ∨ q = 2 ∨ q = 3 ∨ q = 4 ∨ q = 5 ∨ q = 6 ∨ q = 7 ∨ q = 8 ∨ q = 9 ∨ q = 10 := by omega
  rcases this with rfl | rfl | rfl | rfl | rfl | rfl | rfl | rfl | rfl | rfl | rfl <;> decide
theorem mul2 {k : Nat} (h : k ≤ 6) : (2 : Int32) * nI k = nI (2 * k) := by
  have : k = 0 ∨ k = 1 ∨ k = 2 ∨ k = 3 ∨ k = 4 ∨ k = 5 ∨ k = 6 := by omega
  rcases this with rfl | rfl | rfl | rfl | rfl | rfl | rfl <;> decide
theorem upd_eq {f : Fn} {k : Nat} {x : Int32} : upd f k x k = x := if_pos rfl
theorem jin0 {k : Int32} (h : jin k 0 5 = true) (e : k.toInt < 1 ∨ 5 < k.toInt) : k = 0 := by
  obtain ⟨j, hj, rfl⟩ := jin_nat (n := 5) (by decide) h
  rw [nI_toInt (by omega)] at e
  rw [show j = 0 by omega]
  rfl
set_option maxRecDepth 20000 in
set_option maxHeartbeats 200000 in
theorem ml_shift (hp : pre.length = 129) : ∀ (m k : Nat), k + m = 189 → J g mX7_remembers 1 0 0 Q (W2 pre de we da bo be sg pi ru st (shW wa 189) (nI 10) im ik tm to tr tx tn cu sa tk nu wr it sd swt sdd sbx sfl sdi sb sst sp sr nw od bs) 39 [some (.ref 129), some (.int (nI 189))] [] → J g mX7_remembers 1 0 0 Q (W2 pre de we da bo be sg pi ru st (shW wa k) (nI 10) im ik tm to tr tx tn cu sa tk nu wr it sd swt sdd sbx sfl sdi sb sst sp sr nw od bs) 11 [some (.ref 129), some (.int (nI k))] [] := by
  intro m
  induction m with
  | zero =>
    intro k hk hq
    refine j_iload_n (pc := 11) dX7_remembers_11 rfl ?_
    refine j_sipush (pc := 12) dX7_remembers_12 ks_189 ?_
    refine j_icmp_ge (pc := 15) (tgt := 39) dX7_remembers_15 rfl (fun _ => ?_) (fun zc15 => absurd (nI_le (a := 189) (b := k) (by omega) (by omega)) zc15)
    rw [show k = 189 by omega]
    exact hq
  | succ m ih =>
    intro k hk hq
    refine j_iload_n (pc := 11) dX7_remembers_11 rfl ?_
    refine j_sipush (pc := 12) dX7_remembers_12 ks_189 ?_
    refine j_icmp_ge (pc := 15) (tgt := 39) dX7_remembers_15 rfl (fun zc15 => absurd zc15 (nI_ge (a := k) (b := 189) (by omega) (by omega))) (fun _ => ?_)
    refine j_aload_n (pc := 18) dX7_remembers_18 rfl ?_
    refine j_getf (pc := 19) dX7_remembers_19 fl_X7_29 (by apply lkE; (with_reducible first | exact lkM_129 hp | exact lkM_133 hp | exact lkM_144 hp | exact lkM_134 hp | exact lkM_130 hp | exact lkM_131 hp | exact lkM_132 hp | exact lkM_135 hp | exact lkM_136 hp | exact lkM_137 hp | exact lkM_138 hp | exact lkM_145 hp | exact lkM_146 hp | exact lkM_139 hp | exact lkM_140 hp | exact lkM_141 hp | exact lkM_142 hp | exact lkM_143 hp); rfl) rfl ?_
    refine j_iload_n (pc := 22) dX7_remembers_22 rfl ?_
    refine j_aload_n (pc := 23) dX7_remembers_23 rfl ?_
    refine j_getf (pc := 24) dX7_remembers_24 fl_X7_29 (by apply lkE; (with_reducible first | exact lkM_129 hp | exact lkM_133 hp | exact lkM_144 hp | exact lkM_134 hp | exact lkM_130 hp | exact lkM_131 hp | exact lkM_132 hp | exact lkM_135 hp | exact lkM_136 hp | exact lkM_137 hp | exact lkM_138 hp | exact lkM_145 hp | exact lkM_146 hp | exact lkM_139 hp | exact lkM_140 hp | exact lkM_141 hp | exact lkM_142 hp | exact lkM_143 hp); rfl) rfl ?_
    refine j_iload_n (pc := 27) dX7_remembers_27 rfl ?_
    refine j_bipush (pc := 28) dX7_remembers_28 kb_21 ?_
    refine j_iadd (pc := 30) dX7_remembers_30 ?_
    refine j_ialdE (pc := 31) dX7_remembers_31 (by apply lkE; (with_reducible first | exact lkM_129 hp | exact lkM_133 hp | exact lkM_144 hp | exact lkM_134 hp | exact lkM_130 hp | exact lkM_131 hp | exact lkM_132 hp | exact lkM_135 hp | exact lkM_136 hp | exact lkM_137 hp | exact lkM_138 hp | exact lkM_145 hp | exact lkM_146 hp | exact lkM_139 hp | exact lkM_140 hp | exact lkM_141 hp | exact lkM_142 hp | exact lkM_143 hp); rfl) rfl (nIa k 21) (by omega) (by decide) ?_
    refine j_iastE (pc := 32) dX7_remembers_32 (by apply lkE; (with_reducible first | exact lkM_129 hp | exact lkM_133 hp | exact lkM_144 hp | exact lkM_134 hp | exact lkM_130 hp | exact lkM_131 hp | exact lkM_132 hp | exact lkM_135 hp | exact lkM_136 hp | exact lkM_137 hp | exact lkM_138 hp | exact lkM_145 hp | exact lkM_146 hp | exact lkM_139 hp | exact lkM_140 hp | exact lkM_141 hp | exact lkM_142 hp | exact lkM_143 hp); rfl) rfl (by omega) (by decide) (upM_134 hp) ?_
    refine j_iinc (pc := 33) dX7_remembers_33 rfl rfl (Nat.le_of_ble_eq_true rfl) rfl ?_
    refine j_goto (pc := 36) (tgt := 11) dX7_remembers_36 rfl ?_
    rw [nI_s]
    have e : upd (shW wa k) k (shW wa k (k + 21)) = shW wa (k + 1) := by
      funext j
      unfold upd shW
      by_cases e1 : j = k
      · rw [if_pos e1, if_neg (by omega), if_pos (by omega), e1]
      · rw [if_neg e1]
        by_cases e2 : j < k
        · rw [if_pos e2, if_pos (by omega)]
        · rw [if_neg e2, if_neg (by omega)]
    rw [e]
    exact ih (k + 1) (by omega) hq

theorem sh0 {wa : Fn} : shW wa 0 = wa := by
  funext j
  unfold shW
  rw [if_neg (by omega)]
theorem j_heap {y : MI} {d mc ms pc : Nat} {h1 h2 : List AC} {ls : List (Option Value)} {st : List Value} (e : h1 = h2) (k : J g y d mc ms Q h1 pc ls st) : J g y d mc ms Q h2 pc ls st := e ▸ k
set_option maxRecDepth 20000 in
set_option maxHeartbeats 200000 in
theorem m_remember1 (hp : pre.length = 129) : CD g 1 mX7_remembers [.ref 129] (W2 pre de we da bo be sg pi ru st wa (nI 10) im ik tm to tr tx tn cu sa tk nu wr it sd swt sdd sbx sfl sdi sb sst sp sr nw od bs) none (W2 pre de we da bo be sg pi ru st (cpyF (shW wa 189) st 189 0 21) (nI (min (10 + 1) 10)) im ik tm to tr tx tn cu sa tk nu wr it sd swt sdd sbx sfl sdi sb sst sp sr nw od bs) := by
  refine C.of (by decide +kernel) (by simp [Value.category]) (Nat.le_of_ble_eq_true rfl) ?_
  change J g mX7_remembers 1 0 0 _ (W2 pre de we da bo be sg pi ru st wa (nI 10) im ik tm to tr tx tn cu sa tk nu wr it sd swt sdd sbx sfl sdi sb sst sp sr nw od bs) 0 [some (.ref 129), none] []
  refine j_aload_n (pc := 0) dX7_remembers_0 rfl ?_
  refine j_getf (pc := 1) dX7_remembers_1 fl_X7_154 (by apply lkE; (with_reducible first | exact lkM_129 hp | exact lkM_133 hp | exact lkM_144 hp | exact lkM_134 hp | exact lkM_130 hp | exact lkM_131 hp | exact lkM_132 hp | exact lkM_135 hp | exact lkM_136 hp | exact lkM_137 hp | exact lkM_138 hp | exact lkM_145 hp | exact lkM_146 hp | exact lkM_139 hp | exact lkM_140 hp | exact lkM_141 hp | exact lkM_142 hp | exact lkM_143 hp); rfl) rfl ?_
  refine j_bipush (pc := 4) dX7_remembers_4 kb_10 ?_
  refine j_icmp_ne (pc := 6) (tgt := 49) dX7_remembers_6 rfl (fun zc6 => absurd (rfl : nI 10 = 10) zc6) (fun _ => ?_)
  refine j_iconst (pc := 9) dX7_remembers_9 kc_0 ?_
  refine j_istore_n (pc := 10) dX7_remembers_10 rfl (Nat.le_of_ble_eq_true rfl) rfl ?_
  refine j_heap (show (W2 pre de we da bo be sg pi ru st (shW wa 0) (nI 10) im ik tm to tr tx tn cu sa tk nu wr it sd swt sdd sbx sfl sdi sb sst sp sr nw od bs) = _ from by rw [sh0]) (ml_shift hp 189 0 rfl ?_)
  refine j_aload_n (pc := 39) dX7_remembers_39 rfl ?_
  refine j_dup (pc := 40) dX7_remembers_40 rfl ?_
  refine j_getf (pc := 41) dX7_remembers_41 fl_X7_154 (by apply lkE; (with_reducible first | exact lkM_129 hp | exact lkM_133 hp | exact lkM_144 hp | exact lkM_134 hp | exact lkM_130 hp | exact lkM_131 hp | exact lkM_132 hp | exact lkM_135 hp | exact lkM_136 hp | exact lkM_137 hp | exact lkM_138 hp | exact lkM_145 hp | exact lkM_146 hp | exact lkM_139 hp | exact lkM_140 hp | exact lkM_141 hp | exact lkM_142 hp | exact lkM_143 hp); rfl) rfl ?_
  refine j_iconst (pc := 44) dX7_remembers_44 kc_1 ?_
  refine j_isub (pc := 45) dX7_remembers_45 ?_
  rw [show nI 10 - 1 = nI 9 from rfl]
  refine j_putf (pc := 46) dX7_remembers_46 fl_X7_154 (jfit_i _) (by apply lkE; (with_reducible first | exact lkM_129 hp | exact lkM_133 hp | exact lkM_144 hp | exact lkM_134 hp | exact lkM_130 hp | exact lkM_131 hp | exact lkM_132 hp | exact lkM_135 hp | exact lkM_136 hp | exact lkM_137 hp | exact lkM_138 hp | exact lkM_145 hp | exact lkM_146 hp | exact lkM_139 hp | exact lkM_140 hp | exact lkM_141 hp | exact lkM_142 hp | exact lkM_143 hp); rfl) (upM_129 hp) ?_
  refine j_aload_n (pc := 49) dX7_remembers_49 rfl ?_
  refine j_getf (pc := 50) dX7_remembers_50 fl_X7_29 (by apply lkE; (with_reducible first | exact lkM_129 hp | exact lkM_133 hp | exact lkM_144 hp | exact lkM_134 hp | exact lkM_130 hp | exact lkM_131 hp | exact lkM_132 hp | exact lkM_135 hp | exact lkM_136 hp | exact lkM_137 hp | exact lkM_138 hp | exact lkM_145 hp | exact lkM_146 hp | exact lkM_139 hp | exact lkM_140 hp | exact lkM_141 hp | exact lkM_142 hp | exact lkM_143 hp); rfl) rfl ?_
  refine j_bipush (pc := 53) dX7_remembers_53 kb_21 ?_
  refine j_aload_n (pc := 55) dX7_remembers_55 rfl ?_
  refine j_getf (pc := 56) dX7_remembers_56 fl_X7_154 (by apply lkE; (with_reducible first | exact lkM_129 hp | exact lkM_133 hp | exact lkM_144 hp | exact lkM_134 hp | exact lkM_130 hp | exact lkM_131 hp | exact lkM_132 hp | exact lkM_135 hp | exact lkM_136 hp | exact lkM_137 hp | exact lkM_138 hp | exact lkM_145 hp | exact lkM_146 hp | exact lkM_139 hp | exact lkM_140 hp | exact lkM_141 hp | exact lkM_142 hp | exact lkM_143 hp); rfl) rfl ?_
  refine j_imul (pc := 59) dX7_remembers_59 ?_
  rw [show (21 : Int32) * nI 9 = nI 189 from rfl]
  refine j_aload_n (pc := 60) dX7_remembers_60 rfl ?_
  refine j_getf (pc := 61) dX7_remembers_61 fl_X7_26 (by apply lkE; (with_reducible first | exact lkM_129 hp | exact lkM_133 hp | exact lkM_144 hp | exact lkM_134 hp | exact lkM_130 hp | exact lkM_131 hp | exact lkM_132 hp | exact lkM_135 hp | exact lkM_136 hp | exact lkM_137 hp | exact lkM_138 hp | exact lkM_145 hp | exact lkM_146 hp | exact lkM_139 hp | exact lkM_140 hp | exact lkM_141 hp | exact lkM_142 hp | exact lkM_143 hp); rfl) rfl ?_
  refine j_iconst (pc := 64) dX7_remembers_64 kc_0 ?_
  refine j_s4n (pc := 65) dX7_remembers_65 mc_X7_copy ml_X7_160 sm_X7_copy (by omega) (CD.heap (upM_134 hp) (m_copy (p := 189) (q := 0) (by decide) (by omega) (by omega) (by decide) (by decide) (lkM_134 hp) (lkM_133 hp))) (Nat.le_of_ble_eq_true rfl) ?_
  refine j_aload_n (pc := 68) dX7_remembers_68 rfl ?_
  refine j_dup (pc := 69) dX7_remembers_69 rfl ?_
  refine j_getf (pc := 70) dX7_remembers_70 fl_X7_154 (by apply lkE; (with_reducible first | exact lkM_129 hp | exact lkM_133 hp | exact lkM_144 hp | exact lkM_134 hp | exact lkM_130 hp | exact lkM_131 hp | exact lkM_132 hp | exact lkM_135 hp | exact lkM_136 hp | exact lkM_137 hp | exact lkM_138 hp | exact lkM_145 hp | exact lkM_146 hp | exact lkM_139 hp | exact lkM_140 hp | exact lkM_141 hp | exact lkM_142 hp | exact lkM_143 hp); rfl) rfl ?_
  refine j_iconst (pc := 73) dX7_remembers_73 kc_1 ?_
  refine j_iadd (pc := 74) dX7_remembers_74 ?_
  rw [show nI 9 + 1 = nI (min (10 + 1) 10) from rfl]
  refine j_putf (pc := 75) dX7_remembers_75 fl_X7_154 (jfit_i _) (by apply lkE; (with_reducible first | exact lkM_129 hp | exact lkM_133 hp | exact lkM_144 hp | exact lkM_134 hp | exact lkM_130 hp | exact lkM_131 hp | exact lkM_132 hp | exact lkM_135 hp | exact lkM_136 hp | exact lkM_137 hp | exact lkM_138 hp | exact lkM_145 hp | exact lkM_146 hp | exact lkM_139 hp | exact lkM_140 hp | exact lkM_141 hp | exact lkM_142 hp | exact lkM_143 hp); rfl) (upM_129 hp) ?_
  refine j_return (pc := 78) dX7_remembers_78 rfl ?_
  exact ⟨rfl, rfl⟩

set_option maxRecDepth 20000 in
set_option maxHeartbeats 200000 in
theorem m_remember2 (hp : pre.length = 129) {q : Nat} (hkn : kn = nI q) (hq : q < 10) : CD g 1 mX7_remembers [.ref 129] (W2 pre de we da bo be sg pi ru st wa kn im ik tm to tr tx tn cu sa tk nu wr it sd swt sdd sbx sfl sdi sb sst sp sr nw od bs) none (W2 pre de we da bo be sg pi ru st (cpyF wa st (21 * q) 0 21) (nI (q + 1)) im ik tm to tr tx tn cu sa tk nu wr it sd swt sdd sbx sfl sdi sb sst sp sr nw od bs) := by
  refine C.of (by decide +kernel) (by simp [Value.category]) (Nat.le_of_ble_eq_true rfl) ?_
  change J g mX7_remembers 1 0 0 _ (W2 pre de we da bo be sg pi ru st wa kn im ik tm to tr tx tn cu sa tk nu wr it sd swt sdd sbx sfl sdi sb sst sp sr nw od bs) 0 [some (.ref 129), none] []
  refine j_aload_n (pc := 0) dX7_remembers_0 rfl ?_
  refine j_getf (pc := 1) dX7_remembers_1 fl_X7_154 (by apply lkE; (with_reducible first | exact lkM_129 hp | exact lkM_133 hp | exact lkM_144 hp | exact lkM_134 hp | exact lkM_130 hp | exact lkM_131 hp | exact lkM_132 hp | exact lkM_135 hp | exact lkM_136 hp | exact lkM_137 hp | exact lkM_138 hp | exact lkM_145 hp | exact lkM_146 hp | exact lkM_139 hp | exact lkM_140 hp | exact lkM_141 hp | exact lkM_142 hp | exact lkM_143 hp); rfl) rfl ?_
  refine j_bipush (pc := 4) dX7_remembers_4 kb_10 ?_
  refine j_icmp_ne (pc := 6) (tgt := 49) dX7_remembers_6 rfl (fun _ => ?_) (fun zc6 => absurd zc6 (by rw [hkn]; exact fun e => absurd (nI_lt (a := q) (b := 10) hq (by decide)) (by rw [e]; decide)))
  refine j_aload_n (pc := 49) dX7_remembers_49 rfl ?_
  refine j_getf (pc := 50) dX7_remembers_50 fl_X7_29 (by apply lkE; (with_reducible first | exact lkM_129 hp | exact lkM_133 hp | exact lkM_144 hp | exact lkM_134 hp | exact lkM_130 hp | exact lkM_131 hp | exact lkM_132 hp | exact lkM_135 hp | exact lkM_136 hp | exact lkM_137 hp | exact lkM_138 hp | exact lkM_145 hp | exact lkM_146 hp | exact lkM_139 hp | exact lkM_140 hp | exact lkM_141 hp | exact lkM_142 hp | exact lkM_143 hp); rfl) rfl ?_
  refine j_bipush (pc := 53) dX7_remembers_53 kb_21 ?_
  refine j_aload_n (pc := 55) dX7_remembers_55 rfl ?_
  refine j_getf (pc := 56) dX7_remembers_56 fl_X7_154 (by apply lkE; (with_reducible first | exact lkM_129 hp | exact lkM_133 hp | exact lkM_144 hp | exact lkM_134 hp | exact lkM_130 hp | exact lkM_131 hp | exact lkM_132 hp | exact lkM_135 hp | exact lkM_136 hp | exact lkM_137 hp | exact lkM_138 hp | exact lkM_145 hp | exact lkM_146 hp | exact lkM_139 hp | exact lkM_140 hp | exact lkM_141 hp | exact lkM_142 hp | exact lkM_143 hp); rfl) rfl ?_
  refine j_imul (pc := 59) dX7_remembers_59 ?_
  rw [hkn, mul21 (by omega)]
  refine j_aload_n (pc := 60) dX7_remembers_60 rfl ?_
  refine j_getf (pc := 61) dX7_remembers_61 fl_X7_26 (by apply lkE; (with_reducible first | exact lkM_129 hp | exact lkM_133 hp | exact lkM_144 hp | exact lkM_134 hp | exact lkM_130 hp | exact lkM_131 hp | exact lkM_132 hp | exact lkM_135 hp | exact lkM_136 hp | exact lkM_137 hp | exact lkM_138 hp | exact lkM_145 hp | exact lkM_146 hp | exact lkM_139 hp | exact lkM_140 hp | exact lkM_141 hp | exact lkM_142 hp | exact lkM_143 hp); rfl) rfl ?_
  refine j_iconst (pc := 64) dX7_remembers_64 kc_0 ?_
  refine j_s4n (pc := 65) dX7_remembers_65 mc_X7_copy ml_X7_160 sm_X7_copy (by omega) (CD.heap (upM_134 hp) (m_copy (p := 21 * q) (q := 0) (by decide) (by omega) (by omega) (by decide) (by decide) (lkM_134 hp) (lkM_133 hp))) (Nat.le_of_ble_eq_true rfl) ?_
  refine j_aload_n (pc := 68) dX7_remembers_68 rfl ?_
  refine j_dup (pc := 69) dX7_remembers_69 rfl ?_
  refine j_getf (pc := 70) dX7_remembers_70 fl_X7_154 (by apply lkE; (with_reducible first | exact lkM_129 hp | exact lkM_133 hp | exact lkM_144 hp | exact lkM_134 hp | exact lkM_130 hp | exact lkM_131 hp | exact lkM_132 hp | exact lkM_135 hp | exact lkM_136 hp | exact lkM_137 hp | exact lkM_138 hp | exact lkM_145 hp | exact lkM_146 hp | exact lkM_139 hp | exact lkM_140 hp | exact lkM_141 hp | exact lkM_142 hp | exact lkM_143 hp); rfl) rfl ?_
  refine j_iconst (pc := 73) dX7_remembers_73 kc_1 ?_
  refine j_iadd (pc := 74) dX7_remembers_74 ?_
  rw [nI_s1]
  refine j_putf (pc := 75) dX7_remembers_75 fl_X7_154 (jfit_i _) (by apply lkE; (with_reducible first | exact lkM_129 hp | exact lkM_133 hp | exact lkM_144 hp | exact lkM_134 hp | exact lkM_130 hp | exact lkM_131 hp | exact lkM_132 hp | exact lkM_135 hp | exact lkM_136 hp | exact lkM_137 hp | exact lkM_138 hp | exact lkM_145 hp | exact lkM_146 hp | exact lkM_139 hp | exact lkM_140 hp | exact lkM_141 hp | exact lkM_142 hp | exact lkM_143 hp); rfl) (upM_129 hp) ?_
  refine j_return (pc := 78) dX7_remembers_78 rfl ?_
  exact ⟨rfl, rfl⟩

theorem m_remembers (hp : pre.length = 129) {q : Nat} (hkn : kn = nI q) (hq : q ≤ 10) : CD g 1 mX7_remembers [.ref 129] (W2 pre de we da bo be sg pi ru st wa kn im ik tm to tr tx tn cu sa tk nu wr it sd swt sdd sbx sfl sdi sb sst sp sr nw od bs) none (W2 pre de we da bo be sg pi ru st (reW wa st q) (nI (min (q + 1) 10)) im ik tm to tr tx tn cu sa tk nu wr it sd swt sdd sbx sfl sdi sb sst sp sr nw od bs) := by
  by_cases h9 : q = 10
  · subst h9
    subst hkn
    rw [reW, if_pos rfl]
    exact m_remember1 hp
  · rw [reW, if_neg h9, Nat.min_eq_left (by omega)]
    exact m_remember2 hp hkn (by omega)
set_option maxRecDepth 20000 in
set_option maxHeartbeats 200000 in
theorem m_type (hp : pre.length = 129) {c : Int32} {t : Nat} (htn : tn = nI t) (ht : t ≤ 150) (h1 : jin c 0 255 = false → Q (some (.int (-1))) (W2 pre de we da bo be sg pi ru st wa kn im ik tm to tr tx tn cu sa tk nu wr it sd swt sdd sbx sfl sdi sb sst sp sr nw od bs)) (h2 : jin c 0 255 = true → t = 150 → Q (some (.int (-3))) (W2 pre de we da bo be sg pi ru st wa kn im ik tm to tr tx tn cu sa tk nu wr it sd swt sdd sbx sfl sdi sb sst sp sr nw od bs)) (h3 : jin c 0 255 = true → t < 150 → Q (some (.int (tn + 1))) (W2 pre de we da bo be sg pi ru st wa kn im ik tm to tr (upd tx t c) (tn + 1) cu sa tk nu wr it sd swt sdd sbx sfl sdi sb sst sp sr nw od bs)) : C g 7 0 0 mX7_type [.ref 129, .int c] (W2 pre de we da bo be sg pi ru st wa kn im ik tm to tr tx tn cu sa tk nu wr it sd swt sdd sbx sfl sdi sb sst sp sr nw od bs) Q := by
  refine C.of (by decide +kernel) (by simp [Value.category]) (Nat.le_of_ble_eq_true rfl) ?_
  change J g mX7_type 7 0 0 _ (W2 pre de we da bo be sg pi ru st wa kn im ik tm to tr tx tn cu sa tk nu wr it sd swt sdd sbx sfl sdi sb sst sp sr nw od bs) 0 [some (.ref 129), some (.int c)] []
  refine j_iload_n (pc := 0) dX7_type_0 rfl ?_
  refine j_iconst (pc := 1) dX7_type_1 kc_0 ?_
  refine j_sipush (pc := 2) dX7_type_2 ks_255 ?_
  refine j_s3 (pc := 5) dX7_type_5 mc_X7_in ml_X7_72 sm_X7_in (by omega) (c_in) (Nat.le_of_ble_eq_true rfl) ?_
  refine j_bne (pc := 8) (tgt := 13) dX7_type_8 rfl (fun zc8 => ?_) (fun zc8 => ?_)
  · refine j_aload_n (pc := 13) dX7_type_13 rfl ?_
    refine j_getf (pc := 14) dX7_type_14 fl_X7_79 (by apply lkE; (with_reducible first | exact lkM_129 hp | exact lkM_133 hp | exact lkM_144 hp | exact lkM_134 hp | exact lkM_130 hp | exact lkM_131 hp | exact lkM_132 hp | exact lkM_135 hp | exact lkM_136 hp | exact lkM_137 hp | exact lkM_138 hp | exact lkM_145 hp | exact lkM_146 hp | exact lkM_139 hp | exact lkM_140 hp | exact lkM_141 hp | exact lkM_142 hp | exact lkM_143 hp); rfl) rfl ?_
    refine j_sipush (pc := 17) dX7_type_17 ks_150 ?_
    refine j_icmp_ne (pc := 20) (tgt := 26) dX7_type_20 rfl (fun zc20 => ?_) (fun zc20 => ?_)
    · have h150 : t < 150 := by
        by_cases e : t = 150
        · subst e
          exact absurd htn zc20
        · omega
      refine j_aload_n (pc := 26) dX7_type_26 rfl ?_
      refine j_getf (pc := 27) dX7_type_27 fl_X7_42 (by apply lkE; (with_reducible first | exact lkM_129 hp | exact lkM_133 hp | exact lkM_144 hp | exact lkM_134 hp | exact lkM_130 hp | exact lkM_131 hp | exact lkM_132 hp | exact lkM_135 hp | exact lkM_136 hp | exact lkM_137 hp | exact lkM_138 hp | exact lkM_145 hp | exact lkM_146 hp | exact lkM_139 hp | exact lkM_140 hp | exact lkM_141 hp | exact lkM_142 hp | exact lkM_143 hp); rfl) rfl ?_
      refine j_aload_n (pc := 30) dX7_type_30 rfl ?_
      refine j_getf (pc := 31) dX7_type_31 fl_X7_79 (by apply lkE; (with_reducible first | exact lkM_129 hp | exact lkM_133 hp | exact lkM_144 hp | exact lkM_134 hp | exact lkM_130 hp | exact lkM_131 hp | exact lkM_132 hp | exact lkM_135 hp | exact lkM_136 hp | exact lkM_137 hp | exact lkM_138 hp | exact lkM_145 hp | exact lkM_146 hp | exact lkM_139 hp | exact lkM_140 hp | exact lkM_141 hp | exact lkM_142 hp | exact lkM_143 hp); rfl) rfl ?_
      refine j_iload_n (pc := 34) dX7_type_34 rfl ?_
      refine j_iastE (pc := 35) dX7_type_35 (by apply lkE; (with_reducible first | exact lkM_129 hp | exact lkM_133 hp | exact lkM_144 hp | exact lkM_134 hp | exact lkM_130 hp | exact lkM_131 hp | exact lkM_132 hp | exact lkM_135 hp | exact lkM_136 hp | exact lkM_137 hp | exact lkM_138 hp | exact lkM_145 hp | exact lkM_146 hp | exact lkM_139 hp | exact lkM_140 hp | exact lkM_141 hp | exact lkM_142 hp | exact lkM_143 hp); rfl) htn h150 (by decide) (upM_138 hp) ?_
      refine j_aload_n (pc := 36) dX7_type_36 rfl ?_
      refine j_dup (pc := 37) dX7_type_37 rfl ?_
      refine j_getf (pc := 38) dX7_type_38 fl_X7_79 (by apply lkE; (with_reducible first | exact lkM_129 hp | exact lkM_133 hp | exact lkM_144 hp | exact lkM_134 hp | exact lkM_130 hp | exact lkM_131 hp | exact lkM_132 hp | exact lkM_135 hp | exact lkM_136 hp | exact lkM_137 hp | exact lkM_138 hp | exact lkM_145 hp | exact lkM_146 hp | exact lkM_139 hp | exact lkM_140 hp | exact lkM_141 hp | exact lkM_142 hp | exact lkM_143 hp); rfl) rfl ?_
      refine j_iconst (pc := 41) dX7_type_41 kc_1 ?_
      refine j_iadd (pc := 42) dX7_type_42 ?_
      refine j_putf (pc := 43) dX7_type_43 fl_X7_79 (jfit_i _) (by apply lkE; (with_reducible first | exact lkM_129 hp | exact lkM_133 hp | exact lkM_144 hp | exact lkM_134 hp | exact lkM_130 hp | exact lkM_131 hp | exact lkM_132 hp | exact lkM_135 hp | exact lkM_136 hp | exact lkM_137 hp | exact lkM_138 hp | exact lkM_145 hp | exact lkM_146 hp | exact lkM_139 hp | exact lkM_140 hp | exact lkM_141 hp | exact lkM_142 hp | exact lkM_143 hp); rfl) (upM_129 hp) ?_
      refine j_aload_n (pc := 46) dX7_type_46 rfl ?_
      refine j_getf (pc := 47) dX7_type_47 fl_X7_79 (by apply lkE; (with_reducible first | exact lkM_129 hp | exact lkM_133 hp | exact lkM_144 hp | exact lkM_134 hp | exact lkM_130 hp | exact lkM_131 hp | exact lkM_132 hp | exact lkM_135 hp | exact lkM_136 hp | exact lkM_137 hp | exact lkM_138 hp | exact lkM_145 hp | exact lkM_146 hp | exact lkM_139 hp | exact lkM_140 hp | exact lkM_141 hp | exact lkM_142 hp | exact lkM_143 hp); rfl) rfl ?_
      refine j_ireturn (pc := 50) dX7_type_50 rfl ?_
      exact h3 zc8 h150
    · have h150 : t = 150 := by
        have e := congrArg Int32.toInt (htn.symm.trans zc20)
        rw [nI_toInt (by omega)] at e
        have e2 : (150 : Int32).toInt = 150 := by decide
        omega
      refine j_bipush (pc := 23) dX7_type_23 kb_m3 ?_
      refine j_ireturn (pc := 25) dX7_type_25 rfl ?_
      exact h2 zc8 h150
  · refine j_iconst (pc := 11) dX7_type_11 kc_m1 ?_
    refine j_ireturn (pc := 12) dX7_type_12 rfl ?_
    exact h1 zc8

set_option maxRecDepth 20000 in
set_option maxHeartbeats 200000 in
theorem m_clear (hp : pre.length = 129)  (h1 : Q (some (.int tn)) (W2 pre de we da bo be sg pi ru st wa kn im ik tm to tr tx (0) cu sa tk nu wr it sd swt sdd sbx sfl sdi sb sst sp sr nw od bs)) : C g 7 0 0 mX7_clear [.ref 129] (W2 pre de we da bo be sg pi ru st wa kn im ik tm to tr tx tn cu sa tk nu wr it sd swt sdd sbx sfl sdi sb sst sp sr nw od bs) Q := by
  refine C.of (by decide +kernel) (by simp [Value.category]) (Nat.le_of_ble_eq_true rfl) ?_
  change J g mX7_clear 7 0 0 _ (W2 pre de we da bo be sg pi ru st wa kn im ik tm to tr tx tn cu sa tk nu wr it sd swt sdd sbx sfl sdi sb sst sp sr nw od bs) 0 [some (.ref 129), none] []
  refine j_aload_n (pc := 0) dX7_clear_0 rfl ?_
  refine j_getf (pc := 1) dX7_clear_1 fl_X7_79 (by apply lkE; (with_reducible first | exact lkM_129 hp | exact lkM_133 hp | exact lkM_144 hp | exact lkM_134 hp | exact lkM_130 hp | exact lkM_131 hp | exact lkM_132 hp | exact lkM_135 hp | exact lkM_136 hp | exact lkM_137 hp | exact lkM_138 hp | exact lkM_145 hp | exact lkM_146 hp | exact lkM_139 hp | exact lkM_140 hp | exact lkM_141 hp | exact lkM_142 hp | exact lkM_143 hp); rfl) rfl ?_
  refine j_istore_n (pc := 4) dX7_clear_4 rfl (Nat.le_of_ble_eq_true rfl) rfl ?_
  refine j_aload_n (pc := 5) dX7_clear_5 rfl ?_
  refine j_iconst (pc := 6) dX7_clear_6 kc_0 ?_
  refine j_putf (pc := 7) dX7_clear_7 fl_X7_79 (jfit_i _) (by apply lkE; (with_reducible first | exact lkM_129 hp | exact lkM_133 hp | exact lkM_144 hp | exact lkM_134 hp | exact lkM_130 hp | exact lkM_131 hp | exact lkM_132 hp | exact lkM_135 hp | exact lkM_136 hp | exact lkM_137 hp | exact lkM_138 hp | exact lkM_145 hp | exact lkM_146 hp | exact lkM_139 hp | exact lkM_140 hp | exact lkM_141 hp | exact lkM_142 hp | exact lkM_143 hp); rfl) (upM_129 hp) ?_
  refine j_iload_n (pc := 10) dX7_clear_10 rfl ?_
  refine j_ireturn (pc := 11) dX7_clear_11 rfl ?_
  exact h1

set_option maxRecDepth 20000 in
set_option maxHeartbeats 200000 in
theorem m_deed (hp : pre.length = 129) {i c : Int32} {n : Nat} (hdd : da = nI n) (hn : n ≤ 6) {ne : Nat} (hde : de = nI ne) (hne : ne ≤ 6) (h1 : (jlt i de && jin c 0 1) = false → Q (some (.int (-1000000))) (W2 pre de we da bo be sg pi ru st wa kn im ik tm to tr tx tn cu sa tk nu wr it sd swt sdd sbx sfl sdi sb sst sp sr nw od bs)) (h2 : ∀ j : Nat, j < ne → i = nI j → c = 0 → Q (some (.int (we j))) (W2 pre de we da bo be sg pi ru st wa kn im ik tm to tr tx tn cu sa tk nu wr it sd swt sdd sbx sfl sdi sb sst sp sr nw od bs)) (h3 : jlt i de = true → c = 1 → Q (some (.int (iter (mdStep st i) n 0 0))) (W2 pre de we da bo be sg pi ru st wa kn im ik tm to tr tx tn cu sa tk nu wr it sd swt sdd sbx sfl sdi sb sst sp sr nw od bs)) : C g 7 0 0 mX7_deed [.ref 129, .int i, .int c] (W2 pre de we da bo be sg pi ru st wa kn im ik tm to tr tx tn cu sa tk nu wr it sd swt sdd sbx sfl sdi sb sst sp sr nw od bs) Q := by
  refine C.of (by decide +kernel) (by simp [Value.category]) (Nat.le_of_ble_eq_true rfl) ?_
  change J g mX7_deed 7 0 0 _ (W2 pre de we da bo be sg pi ru st wa kn im ik tm to tr tx tn cu sa tk nu wr it sd swt sdd sbx sfl sdi sb sst sp sr nw od bs) 0 [some (.ref 129), some (.int i), some (.int c)] []
  refine j_aload_n (pc := 0) dX7_deed_0 rfl ?_
  refine j_iload_n (pc := 1) dX7_deed_1 rfl ?_
  refine j_v1 (pc := 2) (ci := 7) dX7_deed_2 mc_X7_isDeed ml_X7_182 im_X7_isDeed se_X7_isDeed rfl rfl (by apply lkE; (with_reducible first | exact lkM_129 hp | exact lkM_133 hp | exact lkM_144 hp | exact lkM_134 hp | exact lkM_130 hp | exact lkM_131 hp | exact lkM_132 hp | exact lkM_135 hp | exact lkM_136 hp | exact lkM_137 hp | exact lkM_138 hp | exact lkM_145 hp | exact lkM_146 hp | exact lkM_139 hp | exact lkM_140 hp | exact lkM_141 hp | exact lkM_142 hp | exact lkM_143 hp); rfl) (by omega) (m_isDeed hp hde hne) (Nat.le_of_ble_eq_true rfl) ?_
  refine j_beq (pc := 5) (tgt := 17) dX7_deed_5 rfl (fun zc5 => ?_) (fun zc5 => ?_)
  · refine j_ldc (pc := 17) dX7_deed_17 ck_X7_185 ?_
    refine j_ireturn (pc := 19) dX7_deed_19 rfl ?_
    first
      | exact h1 (by rw [zc5, Bool.false_and])
      | exact h1 (by rw [zc14, Bool.and_false])
  · refine j_iload_n (pc := 8) dX7_deed_8 rfl ?_
    refine j_iconst (pc := 9) dX7_deed_9 kc_0 ?_
    refine j_iconst (pc := 10) dX7_deed_10 kc_1 ?_
    refine j_s3 (pc := 11) dX7_deed_11 mc_X7_in ml_X7_72 sm_X7_in (by omega) (c_in) (Nat.le_of_ble_eq_true rfl) ?_
    refine j_bne (pc := 14) (tgt := 20) dX7_deed_14 rfl (fun zc14 => ?_) (fun zc14 => ?_)
    · refine j_iload_n (pc := 20) dX7_deed_20 rfl ?_
      refine j_if_ne (pc := 21) (tgt := 33) dX7_deed_21 rfl (fun zc21 => ?_) (fun zc21 => ?_)
      · have hc1 : c = 1 := by
          by_cases e : c = 1
          · exact e
          · exact absurd zc14 (by rw [jin01 zc21 e]; decide)
        refine j_aload_n (pc := 33) dX7_deed_33 rfl ?_
        refine j_iload_n (pc := 34) dX7_deed_34 rfl ?_
        refine j_v1 (pc := 35) (ci := 7) dX7_deed_35 mc_X7_whoDid ml_X7_186 im_X7_whoDid se_X7_whoDid rfl rfl (by apply lkE; (with_reducible first | exact lkM_129 hp | exact lkM_133 hp | exact lkM_144 hp | exact lkM_134 hp | exact lkM_130 hp | exact lkM_131 hp | exact lkM_132 hp | exact lkM_135 hp | exact lkM_136 hp | exact lkM_137 hp | exact lkM_138 hp | exact lkM_145 hp | exact lkM_146 hp | exact lkM_139 hp | exact lkM_140 hp | exact lkM_141 hp | exact lkM_142 hp | exact lkM_143 hp); rfl) (by omega) (m_whoDid hp hdd hn) (Nat.le_of_ble_eq_true rfl) ?_
        refine j_ireturn (pc := 38) dX7_deed_38 rfl ?_
        first
          | exact h2 j hj rfl zc21
          | exact h3 zc5 hc1
      · obtain ⟨j, hj, rfl⟩ := jlt_nat (n := ne) (by omega) (by rw [← hde]; exact zc5)
        have hj6 : j < 6 := by omega
        refine j_aload_n (pc := 24) dX7_deed_24 rfl ?_
        refine j_getf (pc := 25) dX7_deed_25 fl_X7_7 (by apply lkE; (with_reducible first | exact lkM_129 hp | exact lkM_133 hp | exact lkM_144 hp | exact lkM_134 hp | exact lkM_130 hp | exact lkM_131 hp | exact lkM_132 hp | exact lkM_135 hp | exact lkM_136 hp | exact lkM_137 hp | exact lkM_138 hp | exact lkM_145 hp | exact lkM_146 hp | exact lkM_139 hp | exact lkM_140 hp | exact lkM_141 hp | exact lkM_142 hp | exact lkM_143 hp); rfl) rfl ?_
        refine j_iload_n (pc := 28) dX7_deed_28 rfl ?_
        refine j_ialdE (pc := 29) dX7_deed_29 (by apply lkE; (with_reducible first | exact lkM_129 hp | exact lkM_133 hp | exact lkM_144 hp | exact lkM_134 hp | exact lkM_130 hp | exact lkM_131 hp | exact lkM_132 hp | exact lkM_135 hp | exact lkM_136 hp | exact lkM_137 hp | exact lkM_138 hp | exact lkM_145 hp | exact lkM_146 hp | exact lkM_139 hp | exact lkM_140 hp | exact lkM_141 hp | exact lkM_142 hp | exact lkM_143 hp); rfl) rfl rfl (by omega) (by decide) ?_
        refine j_goto (pc := 30) (tgt := 38) dX7_deed_30 rfl ?_
        refine j_ireturn (pc := 38) dX7_deed_38 rfl ?_
        first
          | exact h2 j hj rfl zc21
          | exact h3 zc5 hc1
    · refine j_ldc (pc := 17) dX7_deed_17 ck_X7_185 ?_
      refine j_ireturn (pc := 19) dX7_deed_19 rfl ?_
      first
        | exact h1 (by rw [zc5, Bool.false_and])
        | exact h1 (by rw [zc14, Bool.and_false])

def mdaI (pi : Int32) (we bo st : Fn) (ne j : Nat) (c : Int32) : Int32 := if c = 0 then bo j else if c = 1 then st (3 + j) else if c = 2 then st (9 + j) else if c = 3 then mwI we ne (st (9 + j)) else if c = 4 then mlI we bo st ne j else if c = 5 then st (15 + j) else if c = 6 then laT pi st (mlI we bo st ne j) else if c = 7 then (if st (15 + j) = -9 then -1000000 else st (15 + j) - trI we bo st ne j) else -1000000
set_option maxRecDepth 20000 in
set_option maxHeartbeats 200000 in
theorem m_dead (hp : pre.length = 129) {l c : Int32} {n : Nat} (hdd : da = nI n) (hn : n ≤ 6) {ne : Nat} (hde : de = nI ne) (hne : ne ≤ 6) (h1 : jlt l da = false → Q (some (.int (-1000000))) (W2 pre de we da bo be sg pi ru st wa kn im ik tm to tr tx tn cu sa tk nu wr it sd swt sdd sbx sfl sdi sb sst sp sr nw od bs)) (h2 : ∀ (nw2 : Fn) (j : Nat), j < n → l = nI j → Q (some (.int (mdaI pi we bo st ne j c))) (W2 pre de we da bo be sg pi ru st wa kn im ik tm to tr tx tn cu sa tk nu wr it sd swt sdd sbx sfl sdi sb sst sp sr (nw2) od bs)) : C g 7 0 0 mX7_dead [.ref 129, .int l, .int c] (W2 pre de we da bo be sg pi ru st wa kn im ik tm to tr tx tn cu sa tk nu wr it sd swt sdd sbx sfl sdi sb sst sp sr nw od bs) Q := by
  refine C.of (by decide +kernel) (by simp [Value.category]) (Nat.le_of_ble_eq_true rfl) ?_
  change J g mX7_dead 7 0 0 _ (W2 pre de we da bo be sg pi ru st wa kn im ik tm to tr tx tn cu sa tk nu wr it sd swt sdd sbx sfl sdi sb sst sp sr nw od bs) 0 [some (.ref 129), some (.int l), some (.int c)] []
  refine j_aload_n (pc := 0) dX7_dead_0 rfl ?_
  refine j_iload_n (pc := 1) dX7_dead_1 rfl ?_
  refine j_v1 (pc := 2) (ci := 7) dX7_dead_2 mc_X7_isDead ml_X7_189 im_X7_isDead se_X7_isDead rfl rfl (by apply lkE; (with_reducible first | exact lkM_129 hp | exact lkM_133 hp | exact lkM_144 hp | exact lkM_134 hp | exact lkM_130 hp | exact lkM_131 hp | exact lkM_132 hp | exact lkM_135 hp | exact lkM_136 hp | exact lkM_137 hp | exact lkM_138 hp | exact lkM_145 hp | exact lkM_146 hp | exact lkM_139 hp | exact lkM_140 hp | exact lkM_141 hp | exact lkM_142 hp | exact lkM_143 hp); rfl) (by omega) (m_isDead hp hdd hn) (Nat.le_of_ble_eq_true rfl) ?_
  refine j_bne (pc := 5) (tgt := 11) dX7_dead_5 rfl (fun zc5 => ?_) (fun zc5 => ?_)
  · obtain ⟨j, hj, rfl⟩ := jlt_nat (n := n) (by omega) (by rw [← hdd]; exact zc5)
    have hj6 : j < 6 := by omega
    refine j_aload_n (pc := 11) dX7_dead_11 rfl ?_
    refine j_v0n (pc := 12) (ci := 7) dX7_dead_12 mc_X7_asItIs ml_X7_176 im_X7_asItIs se_X7_asItIs rfl rfl (by apply lkE; (with_reducible first | exact lkM_129 hp | exact lkM_133 hp | exact lkM_144 hp | exact lkM_134 hp | exact lkM_130 hp | exact lkM_131 hp | exact lkM_132 hp | exact lkM_135 hp | exact lkM_136 hp | exact lkM_137 hp | exact lkM_138 hp | exact lkM_145 hp | exact lkM_146 hp | exact lkM_139 hp | exact lkM_140 hp | exact lkM_141 hp | exact lkM_142 hp | exact lkM_143 hp); rfl) (by omega) (m_asItIs hp) (Nat.le_of_ble_eq_true rfl) ?_
    refine j_iload_n (pc := 15) dX7_dead_15 rfl ?_
    by_cases zs16 : (c).toInt < 0 ∨ 7 < (c).toInt
    · refine j_tableOut (pc := 16) (tgt := 161) dX7_dead_16 zs16 rfl ?_
      refine j_ldc (pc := 161) dX7_dead_161 ck_X7_185 ?_
      refine j_ireturn (pc := 163) dX7_dead_163 rfl ?_
      have z := h2 st j hj rfl
      rw [mdaI, if_neg (show ¬ c = 0 from fun e => by subst e; exact absurd zs16 (by decide)), if_neg (show ¬ c = 1 from fun e => by subst e; exact absurd zs16 (by decide)), if_neg (show ¬ c = 2 from fun e => by subst e; exact absurd zs16 (by decide)), if_neg (show ¬ c = 3 from fun e => by subst e; exact absurd zs16 (by decide)), if_neg (show ¬ c = 4 from fun e => by subst e; exact absurd zs16 (by decide)), if_neg (show ¬ c = 5 from fun e => by subst e; exact absurd zs16 (by decide)), if_neg (show ¬ c = 6 from fun e => by subst e; exact absurd zs16 (by decide)), if_neg (show ¬ c = 7 from fun e => by subst e; exact absurd zs16 (by decide))] at z
      exact z
    by_cases zs16_0 : c = 0
    · refine j_tableIn (pc := 16) (off := 48) (tgt := 64) dX7_dead_16 (by rw [zs16_0]; decide) (by rw [zs16_0]; decide) (by rw [zs16_0]; decide) rfl ?_
      refine j_aload_n (pc := 64) dX7_dead_64 rfl ?_
      refine j_getf (pc := 65) dX7_dead_65 fl_X7_13 (by apply lkE; (with_reducible first | exact lkM_129 hp | exact lkM_133 hp | exact lkM_144 hp | exact lkM_134 hp | exact lkM_130 hp | exact lkM_131 hp | exact lkM_132 hp | exact lkM_135 hp | exact lkM_136 hp | exact lkM_137 hp | exact lkM_138 hp | exact lkM_145 hp | exact lkM_146 hp | exact lkM_139 hp | exact lkM_140 hp | exact lkM_141 hp | exact lkM_142 hp | exact lkM_143 hp); rfl) rfl ?_
      refine j_iload_n (pc := 68) dX7_dead_68 rfl ?_
      refine j_ialdE (pc := 69) dX7_dead_69 (by apply lkE; (with_reducible first | exact lkM_129 hp | exact lkM_133 hp | exact lkM_144 hp | exact lkM_134 hp | exact lkM_130 hp | exact lkM_131 hp | exact lkM_132 hp | exact lkM_135 hp | exact lkM_136 hp | exact lkM_137 hp | exact lkM_138 hp | exact lkM_145 hp | exact lkM_146 hp | exact lkM_139 hp | exact lkM_140 hp | exact lkM_141 hp | exact lkM_142 hp | exact lkM_143 hp); rfl) rfl rfl (by omega) (by decide) ?_
      refine j_ireturn (pc := 70) dX7_dead_70 rfl ?_
      have z := h2 st j hj rfl
      subst zs16_0
      rw [mdaI, if_pos rfl] at z
      exact z
    by_cases zs16_1 : c = 1
    · refine j_tableIn (pc := 16) (off := 55) (tgt := 71) dX7_dead_16 (by rw [zs16_1]; decide) (by rw [zs16_1]; decide) (by rw [zs16_1]; decide) rfl ?_
      refine j_aload_n (pc := 71) dX7_dead_71 rfl ?_
      refine j_getf (pc := 72) dX7_dead_72 fl_X7_26 (by apply lkE; (with_reducible first | exact lkM_129 hp | exact lkM_133 hp | exact lkM_144 hp | exact lkM_134 hp | exact lkM_130 hp | exact lkM_131 hp | exact lkM_132 hp | exact lkM_135 hp | exact lkM_136 hp | exact lkM_137 hp | exact lkM_138 hp | exact lkM_145 hp | exact lkM_146 hp | exact lkM_139 hp | exact lkM_140 hp | exact lkM_141 hp | exact lkM_142 hp | exact lkM_143 hp); rfl) rfl ?_
      refine j_iconst (pc := 75) dX7_dead_75 kc_3 ?_
      refine j_iload_n (pc := 76) dX7_dead_76 rfl ?_
      refine j_iadd (pc := 77) dX7_dead_77 ?_
      refine j_ialdE (pc := 78) dX7_dead_78 (by apply lkE; (with_reducible first | exact lkM_129 hp | exact lkM_133 hp | exact lkM_144 hp | exact lkM_134 hp | exact lkM_130 hp | exact lkM_131 hp | exact lkM_132 hp | exact lkM_135 hp | exact lkM_136 hp | exact lkM_137 hp | exact lkM_138 hp | exact lkM_145 hp | exact lkM_146 hp | exact lkM_139 hp | exact lkM_140 hp | exact lkM_141 hp | exact lkM_142 hp | exact lkM_143 hp); rfl) rfl (nIa 3 j) (by omega) (by decide) ?_
      refine j_ireturn (pc := 79) dX7_dead_79 rfl ?_
      have z := h2 st j hj rfl
      subst zs16_1
      rw [mdaI, if_neg (show ¬ (1 : Int32) = 0 by decide), if_pos rfl] at z
      exact z
    by_cases zs16_2 : c = 2
    · refine j_tableIn (pc := 16) (off := 64) (tgt := 80) dX7_dead_16 (by rw [zs16_2]; decide) (by rw [zs16_2]; decide) (by rw [zs16_2]; decide) rfl ?_
      refine j_aload_n (pc := 80) dX7_dead_80 rfl ?_
      refine j_getf (pc := 81) dX7_dead_81 fl_X7_26 (by apply lkE; (with_reducible first | exact lkM_129 hp | exact lkM_133 hp | exact lkM_144 hp | exact lkM_134 hp | exact lkM_130 hp | exact lkM_131 hp | exact lkM_132 hp | exact lkM_135 hp | exact lkM_136 hp | exact lkM_137 hp | exact lkM_138 hp | exact lkM_145 hp | exact lkM_146 hp | exact lkM_139 hp | exact lkM_140 hp | exact lkM_141 hp | exact lkM_142 hp | exact lkM_143 hp); rfl) rfl ?_
      refine j_bipush (pc := 84) dX7_dead_84 kb_9 ?_
      refine j_iload_n (pc := 86) dX7_dead_86 rfl ?_
      refine j_iadd (pc := 87) dX7_dead_87 ?_
      refine j_ialdE (pc := 88) dX7_dead_88 (by apply lkE; (with_reducible first | exact lkM_129 hp | exact lkM_133 hp | exact lkM_144 hp | exact lkM_134 hp | exact lkM_130 hp | exact lkM_131 hp | exact lkM_132 hp | exact lkM_135 hp | exact lkM_136 hp | exact lkM_137 hp | exact lkM_138 hp | exact lkM_145 hp | exact lkM_146 hp | exact lkM_139 hp | exact lkM_140 hp | exact lkM_141 hp | exact lkM_142 hp | exact lkM_143 hp); rfl) rfl (nIa 9 j) (by omega) (by decide) ?_
      refine j_ireturn (pc := 89) dX7_dead_89 rfl ?_
      have z := h2 st j hj rfl
      subst zs16_2
      rw [mdaI, if_neg (show ¬ (2 : Int32) = 0 by decide), if_neg (show ¬ (2 : Int32) = 1 by decide), if_pos rfl] at z
      exact z
    by_cases zs16_3 : c = 3
    · refine j_tableIn (pc := 16) (off := 74) (tgt := 90) dX7_dead_16 (by rw [zs16_3]; decide) (by rw [zs16_3]; decide) (by rw [zs16_3]; decide) rfl ?_
      refine j_aload_n (pc := 90) dX7_dead_90 rfl ?_
      refine j_aload_n (pc := 91) dX7_dead_91 rfl ?_
      refine j_getf (pc := 92) dX7_dead_92 fl_X7_26 (by apply lkE; (with_reducible first | exact lkM_129 hp | exact lkM_133 hp | exact lkM_144 hp | exact lkM_134 hp | exact lkM_130 hp | exact lkM_131 hp | exact lkM_132 hp | exact lkM_135 hp | exact lkM_136 hp | exact lkM_137 hp | exact lkM_138 hp | exact lkM_145 hp | exact lkM_146 hp | exact lkM_139 hp | exact lkM_140 hp | exact lkM_141 hp | exact lkM_142 hp | exact lkM_143 hp); rfl) rfl ?_
      refine j_bipush (pc := 95) dX7_dead_95 kb_9 ?_
      refine j_iload_n (pc := 97) dX7_dead_97 rfl ?_
      refine j_iadd (pc := 98) dX7_dead_98 ?_
      refine j_ialdE (pc := 99) dX7_dead_99 (by apply lkE; (with_reducible first | exact lkM_129 hp | exact lkM_133 hp | exact lkM_144 hp | exact lkM_134 hp | exact lkM_130 hp | exact lkM_131 hp | exact lkM_132 hp | exact lkM_135 hp | exact lkM_136 hp | exact lkM_137 hp | exact lkM_138 hp | exact lkM_145 hp | exact lkM_146 hp | exact lkM_139 hp | exact lkM_140 hp | exact lkM_141 hp | exact lkM_142 hp | exact lkM_143 hp); rfl) rfl (nIa 9 j) (by omega) (by decide) ?_
      refine j_v1 (pc := 100) (ci := 7) dX7_dead_100 mc_X7_weightOf ml_X7_164 im_X7_weightOf se_X7_weightOf rfl rfl (by apply lkE; (with_reducible first | exact lkM_129 hp | exact lkM_133 hp | exact lkM_144 hp | exact lkM_134 hp | exact lkM_130 hp | exact lkM_131 hp | exact lkM_132 hp | exact lkM_135 hp | exact lkM_136 hp | exact lkM_137 hp | exact lkM_138 hp | exact lkM_145 hp | exact lkM_146 hp | exact lkM_139 hp | exact lkM_140 hp | exact lkM_141 hp | exact lkM_142 hp | exact lkM_143 hp); rfl) (by omega) (m_weightOf hp hde hne) (Nat.le_of_ble_eq_true rfl) ?_
      refine j_ireturn (pc := 103) dX7_dead_103 rfl ?_
      have z := h2 st j hj rfl
      subst zs16_3
      rw [mdaI, if_neg (show ¬ (3 : Int32) = 0 by decide), if_neg (show ¬ (3 : Int32) = 1 by decide), if_neg (show ¬ (3 : Int32) = 2 by decide), if_pos rfl] at z
      exact z
    by_cases zs16_4 : c = 4
    · refine j_tableIn (pc := 16) (off := 88) (tgt := 104) dX7_dead_16 (by rw [zs16_4]; decide) (by rw [zs16_4]; decide) (by rw [zs16_4]; decide) rfl ?_
      refine j_aload_n (pc := 104) dX7_dead_104 rfl ?_
      refine j_iload_n (pc := 105) dX7_dead_105 rfl ?_
      refine j_v1 (pc := 106) (ci := 7) dX7_dead_106 mc_X7_loadOf ml_X7_170 im_X7_loadOf se_X7_loadOf rfl rfl (by apply lkE; (with_reducible first | exact lkM_129 hp | exact lkM_133 hp | exact lkM_144 hp | exact lkM_134 hp | exact lkM_130 hp | exact lkM_131 hp | exact lkM_132 hp | exact lkM_135 hp | exact lkM_136 hp | exact lkM_137 hp | exact lkM_138 hp | exact lkM_145 hp | exact lkM_146 hp | exact lkM_139 hp | exact lkM_140 hp | exact lkM_141 hp | exact lkM_142 hp | exact lkM_143 hp); rfl) (by omega) (m_loadOf hp hj6 hde hne) (Nat.le_of_ble_eq_true rfl) ?_
      refine j_ireturn (pc := 109) dX7_dead_109 rfl ?_
      have z := h2 st j hj rfl
      subst zs16_4
      rw [mdaI, if_neg (show ¬ (4 : Int32) = 0 by decide), if_neg (show ¬ (4 : Int32) = 1 by decide), if_neg (show ¬ (4 : Int32) = 2 by decide), if_neg (show ¬ (4 : Int32) = 3 by decide), if_pos rfl] at z
      exact z
    by_cases zs16_5 : c = 5
    · refine j_tableIn (pc := 16) (off := 94) (tgt := 110) dX7_dead_16 (by rw [zs16_5]; decide) (by rw [zs16_5]; decide) (by rw [zs16_5]; decide) rfl ?_
      refine j_aload_n (pc := 110) dX7_dead_110 rfl ?_
      refine j_getf (pc := 111) dX7_dead_111 fl_X7_26 (by apply lkE; (with_reducible first | exact lkM_129 hp | exact lkM_133 hp | exact lkM_144 hp | exact lkM_134 hp | exact lkM_130 hp | exact lkM_131 hp | exact lkM_132 hp | exact lkM_135 hp | exact lkM_136 hp | exact lkM_137 hp | exact lkM_138 hp | exact lkM_145 hp | exact lkM_146 hp | exact lkM_139 hp | exact lkM_140 hp | exact lkM_141 hp | exact lkM_142 hp | exact lkM_143 hp); rfl) rfl ?_
      refine j_bipush (pc := 114) dX7_dead_114 kb_15 ?_
      refine j_iload_n (pc := 116) dX7_dead_116 rfl ?_
      refine j_iadd (pc := 117) dX7_dead_117 ?_
      refine j_ialdE (pc := 118) dX7_dead_118 (by apply lkE; (with_reducible first | exact lkM_129 hp | exact lkM_133 hp | exact lkM_144 hp | exact lkM_134 hp | exact lkM_130 hp | exact lkM_131 hp | exact lkM_132 hp | exact lkM_135 hp | exact lkM_136 hp | exact lkM_137 hp | exact lkM_138 hp | exact lkM_145 hp | exact lkM_146 hp | exact lkM_139 hp | exact lkM_140 hp | exact lkM_141 hp | exact lkM_142 hp | exact lkM_143 hp); rfl) rfl (nIa 15 j) (by omega) (by decide) ?_
      refine j_ireturn (pc := 119) dX7_dead_119 rfl ?_
      have z := h2 st j hj rfl
      subst zs16_5
      rw [mdaI, if_neg (show ¬ (5 : Int32) = 0 by decide), if_neg (show ¬ (5 : Int32) = 1 by decide), if_neg (show ¬ (5 : Int32) = 2 by decide), if_neg (show ¬ (5 : Int32) = 3 by decide), if_neg (show ¬ (5 : Int32) = 4 by decide), if_pos rfl] at z
      exact z
    by_cases zs16_6 : c = 6
    · refine j_tableIn (pc := 16) (off := 104) (tgt := 120) dX7_dead_16 (by rw [zs16_6]; decide) (by rw [zs16_6]; decide) (by rw [zs16_6]; decide) rfl ?_
      refine j_aload_n (pc := 120) dX7_dead_120 rfl ?_
      refine j_iload_n (pc := 121) dX7_dead_121 rfl ?_
      refine j_v1 (pc := 122) (ci := 7) dX7_dead_122 mc_X7_readsOf ml_X7_192 im_X7_readsOf se_X7_readsOf rfl rfl (by apply lkE; (with_reducible first | exact lkM_129 hp | exact lkM_133 hp | exact lkM_144 hp | exact lkM_134 hp | exact lkM_130 hp | exact lkM_131 hp | exact lkM_132 hp | exact lkM_135 hp | exact lkM_136 hp | exact lkM_137 hp | exact lkM_138 hp | exact lkM_145 hp | exact lkM_146 hp | exact lkM_139 hp | exact lkM_140 hp | exact lkM_141 hp | exact lkM_142 hp | exact lkM_143 hp); rfl) (by omega) (m_readsOf hp hj6 hde hne) (Nat.le_of_ble_eq_true rfl) ?_
      refine j_ireturn (pc := 125) dX7_dead_125 rfl ?_
      have z := h2 (laN pi st (mlI we bo st ne j) j) j hj rfl
      subst zs16_6
      rw [mdaI, if_neg (show ¬ (6 : Int32) = 0 by decide), if_neg (show ¬ (6 : Int32) = 1 by decide), if_neg (show ¬ (6 : Int32) = 2 by decide), if_neg (show ¬ (6 : Int32) = 3 by decide), if_neg (show ¬ (6 : Int32) = 4 by decide), if_neg (show ¬ (6 : Int32) = 5 by decide), if_pos rfl] at z
      exact z
    by_cases zs16_7 : c = 7
    · refine j_tableIn (pc := 16) (off := 110) (tgt := 126) dX7_dead_16 (by rw [zs16_7]; decide) (by rw [zs16_7]; decide) (by rw [zs16_7]; decide) rfl ?_
      refine j_aload_n (pc := 126) dX7_dead_126 rfl ?_
      refine j_getf (pc := 127) dX7_dead_127 fl_X7_26 (by apply lkE; (with_reducible first | exact lkM_129 hp | exact lkM_133 hp | exact lkM_144 hp | exact lkM_134 hp | exact lkM_130 hp | exact lkM_131 hp | exact lkM_132 hp | exact lkM_135 hp | exact lkM_136 hp | exact lkM_137 hp | exact lkM_138 hp | exact lkM_145 hp | exact lkM_146 hp | exact lkM_139 hp | exact lkM_140 hp | exact lkM_141 hp | exact lkM_142 hp | exact lkM_143 hp); rfl) rfl ?_
      refine j_bipush (pc := 130) dX7_dead_130 kb_15 ?_
      refine j_iload_n (pc := 132) dX7_dead_132 rfl ?_
      refine j_iadd (pc := 133) dX7_dead_133 ?_
      refine j_ialdE (pc := 134) dX7_dead_134 (by apply lkE; (with_reducible first | exact lkM_129 hp | exact lkM_133 hp | exact lkM_144 hp | exact lkM_134 hp | exact lkM_130 hp | exact lkM_131 hp | exact lkM_132 hp | exact lkM_135 hp | exact lkM_136 hp | exact lkM_137 hp | exact lkM_138 hp | exact lkM_145 hp | exact lkM_146 hp | exact lkM_139 hp | exact lkM_140 hp | exact lkM_141 hp | exact lkM_142 hp | exact lkM_143 hp); rfl) rfl (nIa 15 j) (by omega) (by decide) ?_
      refine j_bipush (pc := 135) dX7_dead_135 kb_m9 ?_
      refine j_icmp_ne (pc := 137) (tgt := 145) dX7_dead_137 rfl (fun zc137 => ?_) (fun zc137 => ?_)
      · refine j_aload_n (pc := 145) dX7_dead_145 rfl ?_
        refine j_getf (pc := 146) dX7_dead_146 fl_X7_26 (by apply lkE; (with_reducible first | exact lkM_129 hp | exact lkM_133 hp | exact lkM_144 hp | exact lkM_134 hp | exact lkM_130 hp | exact lkM_131 hp | exact lkM_132 hp | exact lkM_135 hp | exact lkM_136 hp | exact lkM_137 hp | exact lkM_138 hp | exact lkM_145 hp | exact lkM_146 hp | exact lkM_139 hp | exact lkM_140 hp | exact lkM_141 hp | exact lkM_142 hp | exact lkM_143 hp); rfl) rfl ?_
        refine j_bipush (pc := 149) dX7_dead_149 kb_15 ?_
        refine j_iload_n (pc := 151) dX7_dead_151 rfl ?_
        refine j_iadd (pc := 152) dX7_dead_152 ?_
        refine j_ialdE (pc := 153) dX7_dead_153 (by apply lkE; (with_reducible first | exact lkM_129 hp | exact lkM_133 hp | exact lkM_144 hp | exact lkM_134 hp | exact lkM_130 hp | exact lkM_131 hp | exact lkM_132 hp | exact lkM_135 hp | exact lkM_136 hp | exact lkM_137 hp | exact lkM_138 hp | exact lkM_145 hp | exact lkM_146 hp | exact lkM_139 hp | exact lkM_140 hp | exact lkM_141 hp | exact lkM_142 hp | exact lkM_143 hp); rfl) rfl (nIa 15 j) (by omega) (by decide) ?_
        refine j_aload_n (pc := 154) dX7_dead_154 rfl ?_
        refine j_iload_n (pc := 155) dX7_dead_155 rfl ?_
        refine j_v1 (pc := 156) (ci := 7) dX7_dead_156 mc_X7_truly ml_X7_167 im_X7_truly se_X7_truly rfl rfl (by apply lkE; (with_reducible first | exact lkM_129 hp | exact lkM_133 hp | exact lkM_144 hp | exact lkM_134 hp | exact lkM_130 hp | exact lkM_131 hp | exact lkM_132 hp | exact lkM_135 hp | exact lkM_136 hp | exact lkM_137 hp | exact lkM_138 hp | exact lkM_145 hp | exact lkM_146 hp | exact lkM_139 hp | exact lkM_140 hp | exact lkM_141 hp | exact lkM_142 hp | exact lkM_143 hp); rfl) (by omega) (m_truly hp hj6 hde hne) (Nat.le_of_ble_eq_true rfl) ?_
        refine j_isub (pc := 159) dX7_dead_159 ?_
        refine j_ireturn (pc := 160) dX7_dead_160 rfl ?_
        have z := h2 st j hj rfl
        subst zs16_7
        rw [mdaI, if_neg (show ¬ (7 : Int32) = 0 by decide), if_neg (show ¬ (7 : Int32) = 1 by decide), if_neg (show ¬ (7 : Int32) = 2 by decide), if_neg (show ¬ (7 : Int32) = 3 by decide), if_neg (show ¬ (7 : Int32) = 4 by decide), if_neg (show ¬ (7 : Int32) = 5 by decide), if_neg (show ¬ (7 : Int32) = 6 by decide), if_pos rfl] at z
        first
          | (rw [if_pos zc137] at z; exact z)
          | (rw [if_neg zc137] at z; exact z)
      · refine j_ldc (pc := 140) dX7_dead_140 ck_X7_185 ?_
        refine j_goto (pc := 142) (tgt := 160) dX7_dead_142 rfl ?_
        refine j_ireturn (pc := 160) dX7_dead_160 rfl ?_
        have z := h2 st j hj rfl
        subst zs16_7
        rw [mdaI, if_neg (show ¬ (7 : Int32) = 0 by decide), if_neg (show ¬ (7 : Int32) = 1 by decide), if_neg (show ¬ (7 : Int32) = 2 by decide), if_neg (show ¬ (7 : Int32) = 3 by decide), if_neg (show ¬ (7 : Int32) = 4 by decide), if_neg (show ¬ (7 : Int32) = 5 by decide), if_neg (show ¬ (7 : Int32) = 6 by decide), if_pos rfl] at z
        first
          | (rw [if_pos zc137] at z; exact z)
          | (rw [if_neg zc137] at z; exact z)
    exfalso
    have zt16_0 : ¬ (c).toInt = 0 := fun e => zs16_0 (Int32.toInt_inj.mp (e.trans (by decide)))
    have zt16_1 : ¬ (c).toInt = 1 := fun e => zs16_1 (Int32.toInt_inj.mp (e.trans (by decide)))
    have zt16_2 : ¬ (c).toInt = 2 := fun e => zs16_2 (Int32.toInt_inj.mp (e.trans (by decide)))
    have zt16_3 : ¬ (c).toInt = 3 := fun e => zs16_3 (Int32.toInt_inj.mp (e.trans (by decide)))
    have zt16_4 : ¬ (c).toInt = 4 := fun e => zs16_4 (Int32.toInt_inj.mp (e.trans (by decide)))
    have zt16_5 : ¬ (c).toInt = 5 := fun e => zs16_5 (Int32.toInt_inj.mp (e.trans (by decide)))
    have zt16_6 : ¬ (c).toInt = 6 := fun e => zs16_6 (Int32.toInt_inj.mp (e.trans (by decide)))
    have zt16_7 : ¬ (c).toInt = 7 := fun e => zs16_7 (Int32.toInt_inj.mp (e.trans (by decide)))
    omega
  · refine j_ldc (pc := 8) dX7_dead_8 ck_X7_185 ?_
    refine j_ireturn (pc := 10) dX7_dead_10 rfl ?_
    exact h1 zc5

set_option maxRecDepth 20000 in
set_option maxHeartbeats 200000 in
theorem m_bearer (hp : pre.length = 129) {i : Int32} {nb : Nat} (hbe : be = nI nb) (hnb : nb ≤ 6) (h1 : jlt i be = false → Q (some (.int (-1))) (W2 pre de we da bo be sg pi ru st wa kn im ik tm to tr tx tn cu sa tk nu wr it sd swt sdd sbx sfl sdi sb sst sp sr nw od bs)) (h2 : ∀ j : Nat, j < nb → i = nI j → Q (some (.int (sg j))) (W2 pre de we da bo be sg pi ru st wa kn im ik tm to tr tx tn cu sa tk nu wr it sd swt sdd sbx sfl sdi sb sst sp sr nw od bs)) : C g 7 0 0 mX7_bearer [.ref 129, .int i] (W2 pre de we da bo be sg pi ru st wa kn im ik tm to tr tx tn cu sa tk nu wr it sd swt sdd sbx sfl sdi sb sst sp sr nw od bs) Q := by
  refine C.of (by decide +kernel) (by simp [Value.category]) (Nat.le_of_ble_eq_true rfl) ?_
  change J g mX7_bearer 7 0 0 _ (W2 pre de we da bo be sg pi ru st wa kn im ik tm to tr tx tn cu sa tk nu wr it sd swt sdd sbx sfl sdi sb sst sp sr nw od bs) 0 [some (.ref 129), some (.int i)] []
  refine j_iload_n (pc := 0) dX7_bearer_0 rfl ?_
  refine j_iconst (pc := 1) dX7_bearer_1 kc_0 ?_
  refine j_aload_n (pc := 2) dX7_bearer_2 rfl ?_
  refine j_getf (pc := 3) dX7_bearer_3 fl_X7_151 (by apply lkE; (with_reducible first | exact lkM_129 hp | exact lkM_133 hp | exact lkM_144 hp | exact lkM_134 hp | exact lkM_130 hp | exact lkM_131 hp | exact lkM_132 hp | exact lkM_135 hp | exact lkM_136 hp | exact lkM_137 hp | exact lkM_138 hp | exact lkM_145 hp | exact lkM_146 hp | exact lkM_139 hp | exact lkM_140 hp | exact lkM_141 hp | exact lkM_142 hp | exact lkM_143 hp); rfl) rfl ?_
  refine j_iconst (pc := 6) dX7_bearer_6 kc_1 ?_
  refine j_isub (pc := 7) dX7_bearer_7 ?_
  refine j_s3 (pc := 8) dX7_bearer_8 mc_X7_in ml_X7_72 sm_X7_in (by omega) (c_in) (Nat.le_of_ble_eq_true rfl) ?_
  rw [hbe, jin_jlt hnb, ← hbe]
  refine j_beq (pc := 11) (tgt := 23) dX7_bearer_11 rfl (fun zc11 => ?_) (fun zc11 => ?_)
  · refine j_iconst (pc := 23) dX7_bearer_23 kc_m1 ?_
    refine j_ireturn (pc := 24) dX7_bearer_24 rfl ?_
    first
      | exact h1 zc11
      | exact h2 j hj rfl
  · obtain ⟨j, hj, rfl⟩ := jlt_nat (n := nb) (by omega) (by rw [← hbe]; exact zc11)
    have hj6 : j < 6 := by omega
    refine j_aload_n (pc := 14) dX7_bearer_14 rfl ?_
    refine j_getf (pc := 15) dX7_bearer_15 fl_X7_16 (by apply lkE; (with_reducible first | exact lkM_129 hp | exact lkM_133 hp | exact lkM_144 hp | exact lkM_134 hp | exact lkM_130 hp | exact lkM_131 hp | exact lkM_132 hp | exact lkM_135 hp | exact lkM_136 hp | exact lkM_137 hp | exact lkM_138 hp | exact lkM_145 hp | exact lkM_146 hp | exact lkM_139 hp | exact lkM_140 hp | exact lkM_141 hp | exact lkM_142 hp | exact lkM_143 hp); rfl) rfl ?_
    refine j_iload_n (pc := 18) dX7_bearer_18 rfl ?_
    refine j_ialdE (pc := 19) dX7_bearer_19 (by apply lkE; (with_reducible first | exact lkM_129 hp | exact lkM_133 hp | exact lkM_144 hp | exact lkM_134 hp | exact lkM_130 hp | exact lkM_131 hp | exact lkM_132 hp | exact lkM_135 hp | exact lkM_136 hp | exact lkM_137 hp | exact lkM_138 hp | exact lkM_145 hp | exact lkM_146 hp | exact lkM_139 hp | exact lkM_140 hp | exact lkM_141 hp | exact lkM_142 hp | exact lkM_143 hp); rfl) rfl rfl (by omega) (by decide) ?_
    refine j_goto (pc := 20) (tgt := 24) dX7_bearer_20 rfl ?_
    refine j_ireturn (pc := 24) dX7_bearer_24 rfl ?_
    first
      | exact h1 zc11
      | exact h2 j hj rfl

def mnwI (st : Fn) (kn : Int32) (n : Nat) (c : Int32) : Int32 := if c = 0 then st 0 else if c = 1 then st 1 else if c = 2 then st 2 else if c = 3 then iter (mcStep st) n 0 0 else if c = 4 then kn else -1000000
theorem mnw3 {st : Fn} {kn : Int32} {n k : Nat} (hk : k < 3) : mnwI st kn n (nI k) = st k := by
  have : k = 0 ∨ k = 1 ∨ k = 2 := by omega
  rcases this with rfl | rfl | rfl <;> rfl
set_option maxRecDepth 20000 in
set_option maxHeartbeats 200000 in
theorem m_now (hp : pre.length = 129) {c : Int32} {n : Nat} (hdd : da = nI n) (hn : n ≤ 6) (h1 : Q (some (.int (mnwI st kn n c))) (W2 pre de we da bo be sg pi ru st wa kn im ik tm to tr tx tn cu sa tk nu wr it sd swt sdd sbx sfl sdi sb sst sp sr nw od bs)) : C g 7 0 0 mX7_now [.ref 129, .int c] (W2 pre de we da bo be sg pi ru st wa kn im ik tm to tr tx tn cu sa tk nu wr it sd swt sdd sbx sfl sdi sb sst sp sr nw od bs) Q := by
  refine C.of (by decide +kernel) (by simp [Value.category]) (Nat.le_of_ble_eq_true rfl) ?_
  change J g mX7_now 7 0 0 _ (W2 pre de we da bo be sg pi ru st wa kn im ik tm to tr tx tn cu sa tk nu wr it sd swt sdd sbx sfl sdi sb sst sp sr nw od bs) 0 [some (.ref 129), some (.int c)] []
  refine j_iload_n (pc := 0) dX7_now_0 rfl ?_
  by_cases zs1 : (c).toInt < 0 ∨ 4 < (c).toInt
  · refine j_tableOut (pc := 1) (tgt := 53) dX7_now_1 zs1 rfl ?_
    refine j_ldc (pc := 53) dX7_now_53 ck_X7_185 ?_
    refine j_ireturn (pc := 55) dX7_now_55 rfl ?_
    rw [mnwI, if_neg (show ¬ c = 0 from fun e => by subst e; exact absurd zs1 (by decide)), if_neg (show ¬ c = 1 from fun e => by subst e; exact absurd zs1 (by decide)), if_neg (show ¬ c = 2 from fun e => by subst e; exact absurd zs1 (by decide)), if_neg (show ¬ c = 3 from fun e => by subst e; exact absurd zs1 (by decide)), if_neg (show ¬ c = 4 from fun e => by subst e; exact absurd zs1 (by decide))] at h1
    exact h1
  by_cases zs1_0 : c = 0
  · refine j_tableIn (pc := 1) (off := 35) (tgt := 36) dX7_now_1 (by rw [zs1_0]; decide) (by rw [zs1_0]; decide) (by rw [zs1_0]; decide) rfl ?_
    obtain ⟨k, hk, rfl⟩ : ∃ k, k < 3 ∧ c = nI k := by
      first
        | exact ⟨0, by decide, zs1_0⟩
        | exact ⟨1, by decide, zs1_1⟩
        | exact ⟨2, by decide, zs1_2⟩
    refine j_aload_n (pc := 36) dX7_now_36 rfl ?_
    refine j_getf (pc := 37) dX7_now_37 fl_X7_26 (by apply lkE; (with_reducible first | exact lkM_129 hp | exact lkM_133 hp | exact lkM_144 hp | exact lkM_134 hp | exact lkM_130 hp | exact lkM_131 hp | exact lkM_132 hp | exact lkM_135 hp | exact lkM_136 hp | exact lkM_137 hp | exact lkM_138 hp | exact lkM_145 hp | exact lkM_146 hp | exact lkM_139 hp | exact lkM_140 hp | exact lkM_141 hp | exact lkM_142 hp | exact lkM_143 hp); rfl) rfl ?_
    refine j_iload_n (pc := 40) dX7_now_40 rfl ?_
    refine j_ialdE (pc := 41) dX7_now_41 (by apply lkE; (with_reducible first | exact lkM_129 hp | exact lkM_133 hp | exact lkM_144 hp | exact lkM_134 hp | exact lkM_130 hp | exact lkM_131 hp | exact lkM_132 hp | exact lkM_135 hp | exact lkM_136 hp | exact lkM_137 hp | exact lkM_138 hp | exact lkM_145 hp | exact lkM_146 hp | exact lkM_139 hp | exact lkM_140 hp | exact lkM_141 hp | exact lkM_142 hp | exact lkM_143 hp); rfl) rfl rfl (by omega) (by decide) ?_
    refine j_ireturn (pc := 42) dX7_now_42 rfl ?_
    rw [mnw3 hk] at h1
    exact h1
  by_cases zs1_1 : c = 1
  · refine j_tableIn (pc := 1) (off := 35) (tgt := 36) dX7_now_1 (by rw [zs1_1]; decide) (by rw [zs1_1]; decide) (by rw [zs1_1]; decide) rfl ?_
    obtain ⟨k, hk, rfl⟩ : ∃ k, k < 3 ∧ c = nI k := by
      first
        | exact ⟨0, by decide, zs1_0⟩
        | exact ⟨1, by decide, zs1_1⟩
        | exact ⟨2, by decide, zs1_2⟩
    refine j_aload_n (pc := 36) dX7_now_36 rfl ?_
    refine j_getf (pc := 37) dX7_now_37 fl_X7_26 (by apply lkE; (with_reducible first | exact lkM_129 hp | exact lkM_133 hp | exact lkM_144 hp | exact lkM_134 hp | exact lkM_130 hp | exact lkM_131 hp | exact lkM_132 hp | exact lkM_135 hp | exact lkM_136 hp | exact lkM_137 hp | exact lkM_138 hp | exact lkM_145 hp | exact lkM_146 hp | exact lkM_139 hp | exact lkM_140 hp | exact lkM_141 hp | exact lkM_142 hp | exact lkM_143 hp); rfl) rfl ?_
    refine j_iload_n (pc := 40) dX7_now_40 rfl ?_
    refine j_ialdE (pc := 41) dX7_now_41 (by apply lkE; (with_reducible first | exact lkM_129 hp | exact lkM_133 hp | exact lkM_144 hp | exact lkM_134 hp | exact lkM_130 hp | exact lkM_131 hp | exact lkM_132 hp | exact lkM_135 hp | exact lkM_136 hp | exact lkM_137 hp | exact lkM_138 hp | exact lkM_145 hp | exact lkM_146 hp | exact lkM_139 hp | exact lkM_140 hp | exact lkM_141 hp | exact lkM_142 hp | exact lkM_143 hp); rfl) rfl rfl (by omega) (by decide) ?_
    refine j_ireturn (pc := 42) dX7_now_42 rfl ?_
    rw [mnw3 hk] at h1
    exact h1
  by_cases zs1_2 : c = 2
  · refine j_tableIn (pc := 1) (off := 35) (tgt := 36) dX7_now_1 (by rw [zs1_2]; decide) (by rw [zs1_2]; decide) (by rw [zs1_2]; decide) rfl ?_
    obtain ⟨k, hk, rfl⟩ : ∃ k, k < 3 ∧ c = nI k := by
      first
        | exact ⟨0, by decide, zs1_0⟩
        | exact ⟨1, by decide, zs1_1⟩
        | exact ⟨2, by decide, zs1_2⟩
    refine j_aload_n (pc := 36) dX7_now_36 rfl ?_
    refine j_getf (pc := 37) dX7_now_37 fl_X7_26 (by apply lkE; (with_reducible first | exact lkM_129 hp | exact lkM_133 hp | exact lkM_144 hp | exact lkM_134 hp | exact lkM_130 hp | exact lkM_131 hp | exact lkM_132 hp | exact lkM_135 hp | exact lkM_136 hp | exact lkM_137 hp | exact lkM_138 hp | exact lkM_145 hp | exact lkM_146 hp | exact lkM_139 hp | exact lkM_140 hp | exact lkM_141 hp | exact lkM_142 hp | exact lkM_143 hp); rfl) rfl ?_
    refine j_iload_n (pc := 40) dX7_now_40 rfl ?_
    refine j_ialdE (pc := 41) dX7_now_41 (by apply lkE; (with_reducible first | exact lkM_129 hp | exact lkM_133 hp | exact lkM_144 hp | exact lkM_134 hp | exact lkM_130 hp | exact lkM_131 hp | exact lkM_132 hp | exact lkM_135 hp | exact lkM_136 hp | exact lkM_137 hp | exact lkM_138 hp | exact lkM_145 hp | exact lkM_146 hp | exact lkM_139 hp | exact lkM_140 hp | exact lkM_141 hp | exact lkM_142 hp | exact lkM_143 hp); rfl) rfl rfl (by omega) (by decide) ?_
    refine j_ireturn (pc := 42) dX7_now_42 rfl ?_
    rw [mnw3 hk] at h1
    exact h1
  by_cases zs1_3 : c = 3
  · refine j_tableIn (pc := 1) (off := 42) (tgt := 43) dX7_now_1 (by rw [zs1_3]; decide) (by rw [zs1_3]; decide) (by rw [zs1_3]; decide) rfl ?_
    refine j_aload_n (pc := 43) dX7_now_43 rfl ?_
    refine j_v0 (pc := 44) (ci := 7) dX7_now_44 mc_X7_chalked ml_X7_195 im_X7_chalked se_X7_chalked rfl rfl (by apply lkE; (with_reducible first | exact lkM_129 hp | exact lkM_133 hp | exact lkM_144 hp | exact lkM_134 hp | exact lkM_130 hp | exact lkM_131 hp | exact lkM_132 hp | exact lkM_135 hp | exact lkM_136 hp | exact lkM_137 hp | exact lkM_138 hp | exact lkM_145 hp | exact lkM_146 hp | exact lkM_139 hp | exact lkM_140 hp | exact lkM_141 hp | exact lkM_142 hp | exact lkM_143 hp); rfl) (by omega) (m_chalked hp hdd hn) (Nat.le_of_ble_eq_true rfl) ?_
    refine j_ireturn (pc := 47) dX7_now_47 rfl ?_
    subst zs1_3
    rw [mnwI, if_neg (show ¬ (3 : Int32) = 0 by decide), if_neg (show ¬ (3 : Int32) = 1 by decide), if_neg (show ¬ (3 : Int32) = 2 by decide), if_pos rfl] at h1
    exact h1
  by_cases zs1_4 : c = 4
  · refine j_tableIn (pc := 1) (off := 47) (tgt := 48) dX7_now_1 (by rw [zs1_4]; decide) (by rw [zs1_4]; decide) (by rw [zs1_4]; decide) rfl ?_
    refine j_aload_n (pc := 48) dX7_now_48 rfl ?_
    refine j_getf (pc := 49) dX7_now_49 fl_X7_154 (by apply lkE; (with_reducible first | exact lkM_129 hp | exact lkM_133 hp | exact lkM_144 hp | exact lkM_134 hp | exact lkM_130 hp | exact lkM_131 hp | exact lkM_132 hp | exact lkM_135 hp | exact lkM_136 hp | exact lkM_137 hp | exact lkM_138 hp | exact lkM_145 hp | exact lkM_146 hp | exact lkM_139 hp | exact lkM_140 hp | exact lkM_141 hp | exact lkM_142 hp | exact lkM_143 hp); rfl) rfl ?_
    refine j_ireturn (pc := 52) dX7_now_52 rfl ?_
    subst zs1_4
    rw [mnwI, if_neg (show ¬ (4 : Int32) = 0 by decide), if_neg (show ¬ (4 : Int32) = 1 by decide), if_neg (show ¬ (4 : Int32) = 2 by decide), if_neg (show ¬ (4 : Int32) = 3 by decide), if_pos rfl] at h1
    exact h1
  exfalso
  have zt1_0 : ¬ (c).toInt = 0 := fun e => zs1_0 (Int32.toInt_inj.mp (e.trans (by decide)))
  have zt1_1 : ¬ (c).toInt = 1 := fun e => zs1_1 (Int32.toInt_inj.mp (e.trans (by decide)))
  have zt1_2 : ¬ (c).toInt = 2 := fun e => zs1_2 (Int32.toInt_inj.mp (e.trans (by decide)))
  have zt1_3 : ¬ (c).toInt = 3 := fun e => zs1_3 (Int32.toInt_inj.mp (e.trans (by decide)))
  have zt1_4 : ¬ (c).toInt = 4 := fun e => zs1_4 (Int32.toInt_inj.mp (e.trans (by decide)))
  omega

set_option maxRecDepth 20000 in
set_option maxHeartbeats 200000 in
theorem m_lays (hp : pre.length = 129) {l : Int32} {n : Nat} (hdd : da = nI n) (hn : n ≤ 6) {ne : Nat} (hde : de = nI ne) (hne : ne ≤ 6) {q : Nat} (hkn : kn = nI q) (hq : q ≤ 10) (h1 : jlt l da = false → Q (some (.int (-1))) (W2 pre de we da bo be sg pi ru st wa kn im ik tm to tr tx tn cu sa tk nu wr it sd swt sdd sbx sfl sdi sb sst sp sr nw od bs)) (h2 : ∀ j : Nat, j < n → l = nI j → ¬ st (15 + j) = -9 → Q (some (.int (-2))) (W2 pre de we da bo be sg pi ru st wa kn im ik tm to tr tx tn cu sa tk nu wr it sd swt sdd sbx sfl sdi sb sst sp sr nw od bs)) (h3 : ∀ j : Nat, j < n → l = nI j → st (15 + j) = -9 → Q (some (.int (laT pi st (mlI we bo st ne j)))) (W2 pre de we da bo be sg pi ru (laN pi st (mlI we bo st ne j) j) (reW wa st q) (nI (min (q + 1) 10)) im ik tm to tr tx tn cu sa tk nu wr it sd swt sdd sbx sfl sdi sb sst sp sr (laN pi st (mlI we bo st ne j) j) od bs)) : C g 7 0 0 mX7_lays [.ref 129, .int l] (W2 pre de we da bo be sg pi ru st wa kn im ik tm to tr tx tn cu sa tk nu wr it sd swt sdd sbx sfl sdi sb sst sp sr nw od bs) Q := by
  refine C.of (by decide +kernel) (by simp [Value.category]) (Nat.le_of_ble_eq_true rfl) ?_
  change J g mX7_lays 7 0 0 _ (W2 pre de we da bo be sg pi ru st wa kn im ik tm to tr tx tn cu sa tk nu wr it sd swt sdd sbx sfl sdi sb sst sp sr nw od bs) 0 [some (.ref 129), some (.int l), none] []
  refine j_aload_n (pc := 0) dX7_lays_0 rfl ?_
  refine j_iload_n (pc := 1) dX7_lays_1 rfl ?_
  refine j_v1 (pc := 2) (ci := 7) dX7_lays_2 mc_X7_isDead ml_X7_189 im_X7_isDead se_X7_isDead rfl rfl (by apply lkE; (with_reducible first | exact lkM_129 hp | exact lkM_133 hp | exact lkM_144 hp | exact lkM_134 hp | exact lkM_130 hp | exact lkM_131 hp | exact lkM_132 hp | exact lkM_135 hp | exact lkM_136 hp | exact lkM_137 hp | exact lkM_138 hp | exact lkM_145 hp | exact lkM_146 hp | exact lkM_139 hp | exact lkM_140 hp | exact lkM_141 hp | exact lkM_142 hp | exact lkM_143 hp); rfl) (by omega) (m_isDead hp hdd hn) (Nat.le_of_ble_eq_true rfl) ?_
  refine j_bne (pc := 5) (tgt := 10) dX7_lays_5 rfl (fun zc5 => ?_) (fun zc5 => ?_)
  · obtain ⟨j, hj, rfl⟩ := jlt_nat (n := n) (by omega) (by rw [← hdd]; exact zc5)
    have hj6 : j < 6 := by omega
    refine j_aload_n (pc := 10) dX7_lays_10 rfl ?_
    refine j_getf (pc := 11) dX7_lays_11 fl_X7_26 (by apply lkE; (with_reducible first | exact lkM_129 hp | exact lkM_133 hp | exact lkM_144 hp | exact lkM_134 hp | exact lkM_130 hp | exact lkM_131 hp | exact lkM_132 hp | exact lkM_135 hp | exact lkM_136 hp | exact lkM_137 hp | exact lkM_138 hp | exact lkM_145 hp | exact lkM_146 hp | exact lkM_139 hp | exact lkM_140 hp | exact lkM_141 hp | exact lkM_142 hp | exact lkM_143 hp); rfl) rfl ?_
    refine j_bipush (pc := 14) dX7_lays_14 kb_15 ?_
    refine j_iload_n (pc := 16) dX7_lays_16 rfl ?_
    refine j_iadd (pc := 17) dX7_lays_17 ?_
    refine j_ialdE (pc := 18) dX7_lays_18 (by apply lkE; (with_reducible first | exact lkM_129 hp | exact lkM_133 hp | exact lkM_144 hp | exact lkM_134 hp | exact lkM_130 hp | exact lkM_131 hp | exact lkM_132 hp | exact lkM_135 hp | exact lkM_136 hp | exact lkM_137 hp | exact lkM_138 hp | exact lkM_145 hp | exact lkM_146 hp | exact lkM_139 hp | exact lkM_140 hp | exact lkM_141 hp | exact lkM_142 hp | exact lkM_143 hp); rfl) rfl (nIa 15 j) (by omega) (by decide) ?_
    refine j_bipush (pc := 19) dX7_lays_19 kb_m9 ?_
    refine j_icmp_eq (pc := 21) (tgt := 27) dX7_lays_21 rfl (fun zc21 => ?_) (fun zc21 => ?_)
    · refine j_aload_n (pc := 27) dX7_lays_27 rfl ?_
      refine j_v0n (pc := 28) (ci := 7) dX7_lays_28 mc_X7_remembers ml_X7_199 im_X7_remembers se_X7_remembers rfl rfl (by apply lkE; (with_reducible first | exact lkM_129 hp | exact lkM_133 hp | exact lkM_144 hp | exact lkM_134 hp | exact lkM_130 hp | exact lkM_131 hp | exact lkM_132 hp | exact lkM_135 hp | exact lkM_136 hp | exact lkM_137 hp | exact lkM_138 hp | exact lkM_145 hp | exact lkM_146 hp | exact lkM_139 hp | exact lkM_140 hp | exact lkM_141 hp | exact lkM_142 hp | exact lkM_143 hp); rfl) (by omega) (m_remembers hp hkn hq) (Nat.le_of_ble_eq_true rfl) ?_
      refine j_aload_n (pc := 31) dX7_lays_31 rfl ?_
      refine j_v0n (pc := 32) (ci := 7) dX7_lays_32 mc_X7_asItIs ml_X7_176 im_X7_asItIs se_X7_asItIs rfl rfl (by apply lkE; (with_reducible first | exact lkM_129 hp | exact lkM_133 hp | exact lkM_144 hp | exact lkM_134 hp | exact lkM_130 hp | exact lkM_131 hp | exact lkM_132 hp | exact lkM_135 hp | exact lkM_136 hp | exact lkM_137 hp | exact lkM_138 hp | exact lkM_145 hp | exact lkM_146 hp | exact lkM_139 hp | exact lkM_140 hp | exact lkM_141 hp | exact lkM_142 hp | exact lkM_143 hp); rfl) (by omega) (m_asItIs hp) (Nat.le_of_ble_eq_true rfl) ?_
      refine j_aload_n (pc := 35) dX7_lays_35 rfl ?_
      refine j_iload_n (pc := 36) dX7_lays_36 rfl ?_
      refine j_v1 (pc := 37) (ci := 7) dX7_lays_37 mc_X7_laid ml_X7_179 im_X7_laid se_X7_laid rfl rfl (by apply lkE; (with_reducible first | exact lkM_129 hp | exact lkM_133 hp | exact lkM_144 hp | exact lkM_134 hp | exact lkM_130 hp | exact lkM_131 hp | exact lkM_132 hp | exact lkM_135 hp | exact lkM_136 hp | exact lkM_137 hp | exact lkM_138 hp | exact lkM_145 hp | exact lkM_146 hp | exact lkM_139 hp | exact lkM_140 hp | exact lkM_141 hp | exact lkM_142 hp | exact lkM_143 hp); rfl) (by omega) (m_laid hp hj6 hde hne) (Nat.le_of_ble_eq_true rfl) ?_
      refine j_istore_n (pc := 40) dX7_lays_40 rfl (Nat.le_of_ble_eq_true rfl) rfl ?_
      refine j_aload_n (pc := 41) dX7_lays_41 rfl ?_
      refine j_getf (pc := 42) dX7_lays_42 fl_X7_26 (by apply lkE; (with_reducible first | exact lkM_129 hp | exact lkM_133 hp | exact lkM_144 hp | exact lkM_134 hp | exact lkM_130 hp | exact lkM_131 hp | exact lkM_132 hp | exact lkM_135 hp | exact lkM_136 hp | exact lkM_137 hp | exact lkM_138 hp | exact lkM_145 hp | exact lkM_146 hp | exact lkM_139 hp | exact lkM_140 hp | exact lkM_141 hp | exact lkM_142 hp | exact lkM_143 hp); rfl) rfl ?_
      refine j_iconst (pc := 45) dX7_lays_45 kc_0 ?_
      refine j_aload_n (pc := 46) dX7_lays_46 rfl ?_
      refine j_getf (pc := 47) dX7_lays_47 fl_X7_60 (by apply lkE; (with_reducible first | exact lkM_129 hp | exact lkM_133 hp | exact lkM_144 hp | exact lkM_134 hp | exact lkM_130 hp | exact lkM_131 hp | exact lkM_132 hp | exact lkM_135 hp | exact lkM_136 hp | exact lkM_137 hp | exact lkM_138 hp | exact lkM_145 hp | exact lkM_146 hp | exact lkM_139 hp | exact lkM_140 hp | exact lkM_141 hp | exact lkM_142 hp | exact lkM_143 hp); rfl) rfl ?_
      refine j_iconst (pc := 50) dX7_lays_50 kc_0 ?_
      refine j_s4n (pc := 51) dX7_lays_51 mc_X7_copy ml_X7_160 sm_X7_copy (by omega) (CD.heap (up_lays hp) (m_copy (p := 0) (q := 0) (by decide) (by omega) (by omega) (by decide) (by decide) (lkM_133 hp) (lkM_144 hp))) (Nat.le_of_ble_eq_true rfl) ?_
      refine j_iload_n (pc := 54) dX7_lays_54 rfl ?_
      refine j_ireturn (pc := 55) dX7_lays_55 rfl ?_
      exact h3 j hj rfl zc21
    · refine j_bipush (pc := 24) dX7_lays_24 kb_m2 ?_
      refine j_ireturn (pc := 26) dX7_lays_26 rfl ?_
      exact h2 j hj rfl zc21
  · refine j_iconst (pc := 8) dX7_lays_8 kc_m1 ?_
    refine j_ireturn (pc := 9) dX7_lays_9 rfl ?_
    exact h1 zc5

set_option maxRecDepth 20000 in
set_option maxHeartbeats 200000 in
theorem m_thumbs (hp : pre.length = 129) {c : Int32} {q : Nat} (hkn : kn = nI q) (hq : q ≤ 10) (h1 : jin c (-9) 9 = false → Q (some (.int (-1000000))) (W2 pre de we da bo be sg pi ru st wa kn im ik tm to tr tx tn cu sa tk nu wr it sd swt sdd sbx sfl sdi sb sst sp sr nw od bs)) (h2 : jin c (-9) 9 = true → Q (some (.int (st 1))) (W2 pre de we da bo be sg pi ru (upd st 1 c) (reW wa st q) (nI (min (q + 1) 10)) im ik tm to tr tx tn cu sa tk nu wr it sd swt sdd sbx sfl sdi sb sst sp sr nw od bs)) : C g 7 0 0 mX7_thumbs [.ref 129, .int c] (W2 pre de we da bo be sg pi ru st wa kn im ik tm to tr tx tn cu sa tk nu wr it sd swt sdd sbx sfl sdi sb sst sp sr nw od bs) Q := by
  refine C.of (by decide +kernel) (by simp [Value.category]) (Nat.le_of_ble_eq_true rfl) ?_
  change J g mX7_thumbs 7 0 0 _ (W2 pre de we da bo be sg pi ru st wa kn im ik tm to tr tx tn cu sa tk nu wr it sd swt sdd sbx sfl sdi sb sst sp sr nw od bs) 0 [some (.ref 129), some (.int c), none] []
  refine j_iload_n (pc := 0) dX7_thumbs_0 rfl ?_
  refine j_bipush (pc := 1) dX7_thumbs_1 kb_m9 ?_
  refine j_bipush (pc := 3) dX7_thumbs_3 kb_9 ?_
  refine j_s3 (pc := 5) dX7_thumbs_5 mc_X7_in ml_X7_72 sm_X7_in (by omega) (c_in) (Nat.le_of_ble_eq_true rfl) ?_
  refine j_bne (pc := 8) (tgt := 14) dX7_thumbs_8 rfl (fun zc8 => ?_) (fun zc8 => ?_)
  · refine j_aload_n (pc := 14) dX7_thumbs_14 rfl ?_
    refine j_v0n (pc := 15) (ci := 7) dX7_thumbs_15 mc_X7_remembers ml_X7_199 im_X7_remembers se_X7_remembers rfl rfl (by apply lkE; (with_reducible first | exact lkM_129 hp | exact lkM_133 hp | exact lkM_144 hp | exact lkM_134 hp | exact lkM_130 hp | exact lkM_131 hp | exact lkM_132 hp | exact lkM_135 hp | exact lkM_136 hp | exact lkM_137 hp | exact lkM_138 hp | exact lkM_145 hp | exact lkM_146 hp | exact lkM_139 hp | exact lkM_140 hp | exact lkM_141 hp | exact lkM_142 hp | exact lkM_143 hp); rfl) (by omega) (m_remembers hp hkn hq) (Nat.le_of_ble_eq_true rfl) ?_
    refine j_aload_n (pc := 18) dX7_thumbs_18 rfl ?_
    refine j_getf (pc := 19) dX7_thumbs_19 fl_X7_26 (by apply lkE; (with_reducible first | exact lkM_129 hp | exact lkM_133 hp | exact lkM_144 hp | exact lkM_134 hp | exact lkM_130 hp | exact lkM_131 hp | exact lkM_132 hp | exact lkM_135 hp | exact lkM_136 hp | exact lkM_137 hp | exact lkM_138 hp | exact lkM_145 hp | exact lkM_146 hp | exact lkM_139 hp | exact lkM_140 hp | exact lkM_141 hp | exact lkM_142 hp | exact lkM_143 hp); rfl) rfl ?_
    refine j_iconst (pc := 22) dX7_thumbs_22 kc_1 ?_
    refine j_ialdE (pc := 23) dX7_thumbs_23 (by apply lkE; (with_reducible first | exact lkM_129 hp | exact lkM_133 hp | exact lkM_144 hp | exact lkM_134 hp | exact lkM_130 hp | exact lkM_131 hp | exact lkM_132 hp | exact lkM_135 hp | exact lkM_136 hp | exact lkM_137 hp | exact lkM_138 hp | exact lkM_145 hp | exact lkM_146 hp | exact lkM_139 hp | exact lkM_140 hp | exact lkM_141 hp | exact lkM_142 hp | exact lkM_143 hp); rfl) rfl (rfl : (1 : Int32) = nI 1) (by decide) (by decide) ?_
    refine j_istore_n (pc := 24) dX7_thumbs_24 rfl (Nat.le_of_ble_eq_true rfl) rfl ?_
    refine j_aload_n (pc := 25) dX7_thumbs_25 rfl ?_
    refine j_getf (pc := 26) dX7_thumbs_26 fl_X7_26 (by apply lkE; (with_reducible first | exact lkM_129 hp | exact lkM_133 hp | exact lkM_144 hp | exact lkM_134 hp | exact lkM_130 hp | exact lkM_131 hp | exact lkM_132 hp | exact lkM_135 hp | exact lkM_136 hp | exact lkM_137 hp | exact lkM_138 hp | exact lkM_145 hp | exact lkM_146 hp | exact lkM_139 hp | exact lkM_140 hp | exact lkM_141 hp | exact lkM_142 hp | exact lkM_143 hp); rfl) rfl ?_
    refine j_iconst (pc := 29) dX7_thumbs_29 kc_1 ?_
    refine j_iload_n (pc := 30) dX7_thumbs_30 rfl ?_
    refine j_iastE (pc := 31) dX7_thumbs_31 (by apply lkE; (with_reducible first | exact lkM_129 hp | exact lkM_133 hp | exact lkM_144 hp | exact lkM_134 hp | exact lkM_130 hp | exact lkM_131 hp | exact lkM_132 hp | exact lkM_135 hp | exact lkM_136 hp | exact lkM_137 hp | exact lkM_138 hp | exact lkM_145 hp | exact lkM_146 hp | exact lkM_139 hp | exact lkM_140 hp | exact lkM_141 hp | exact lkM_142 hp | exact lkM_143 hp); rfl) (rfl : (1 : Int32) = nI 1) (by decide) (by decide) (upM_133 hp) ?_
    refine j_iload_n (pc := 32) dX7_thumbs_32 rfl ?_
    refine j_ireturn (pc := 33) dX7_thumbs_33 rfl ?_
    exact h2 zc8
  · refine j_ldc (pc := 11) dX7_thumbs_11 ck_X7_185 ?_
    refine j_ireturn (pc := 13) dX7_thumbs_13 rfl ?_
    exact h1 zc8

set_option maxRecDepth 20000 in
set_option maxHeartbeats 200000 in
theorem m_adorns (hp : pre.length = 129) {l c : Int32} {n : Nat} (hdd : da = nI n) (hn : n ≤ 6) {q : Nat} (hkn : kn = nI q) (hq : q ≤ 10) (h1 : (jlt l da && jin c 0 9) = false → Q (some (.int (-1))) (W2 pre de we da bo be sg pi ru st wa kn im ik tm to tr tx tn cu sa tk nu wr it sd swt sdd sbx sfl sdi sb sst sp sr nw od bs)) (h2 : ∀ j : Nat, j < n → l = nI j → jin c 0 9 = true → Q (some (.int (st (3 + j)))) (W2 pre de we da bo be sg pi ru (upd st (3 + j) c) (reW wa st q) (nI (min (q + 1) 10)) im ik tm to tr tx tn cu sa tk nu wr it sd swt sdd sbx sfl sdi sb sst sp sr nw od bs)) : C g 7 0 0 mX7_adorns [.ref 129, .int l, .int c] (W2 pre de we da bo be sg pi ru st wa kn im ik tm to tr tx tn cu sa tk nu wr it sd swt sdd sbx sfl sdi sb sst sp sr nw od bs) Q := by
  refine C.of (by decide +kernel) (by simp [Value.category]) (Nat.le_of_ble_eq_true rfl) ?_
  change J g mX7_adorns 7 0 0 _ (W2 pre de we da bo be sg pi ru st wa kn im ik tm to tr tx tn cu sa tk nu wr it sd swt sdd sbx sfl sdi sb sst sp sr nw od bs) 0 [some (.ref 129), some (.int l), some (.int c), none] []
  refine j_aload_n (pc := 0) dX7_adorns_0 rfl ?_
  refine j_iload_n (pc := 1) dX7_adorns_1 rfl ?_
  refine j_v1 (pc := 2) (ci := 7) dX7_adorns_2 mc_X7_isDead ml_X7_189 im_X7_isDead se_X7_isDead rfl rfl (by apply lkE; (with_reducible first | exact lkM_129 hp | exact lkM_133 hp | exact lkM_144 hp | exact lkM_134 hp | exact lkM_130 hp | exact lkM_131 hp | exact lkM_132 hp | exact lkM_135 hp | exact lkM_136 hp | exact lkM_137 hp | exact lkM_138 hp | exact lkM_145 hp | exact lkM_146 hp | exact lkM_139 hp | exact lkM_140 hp | exact lkM_141 hp | exact lkM_142 hp | exact lkM_143 hp); rfl) (by omega) (m_isDead hp hdd hn) (Nat.le_of_ble_eq_true rfl) ?_
  refine j_beq (pc := 5) (tgt := 18) dX7_adorns_5 rfl (fun zc5 => ?_) (fun zc5 => ?_)
  · refine j_iconst (pc := 18) dX7_adorns_18 kc_m1 ?_
    refine j_ireturn (pc := 19) dX7_adorns_19 rfl ?_
    first
      | exact h1 (by rw [zc5, Bool.false_and])
      | exact h1 (by rw [zc15, Bool.and_false])
  · refine j_iload_n (pc := 8) dX7_adorns_8 rfl ?_
    refine j_iconst (pc := 9) dX7_adorns_9 kc_0 ?_
    refine j_bipush (pc := 10) dX7_adorns_10 kb_9 ?_
    refine j_s3 (pc := 12) dX7_adorns_12 mc_X7_in ml_X7_72 sm_X7_in (by omega) (c_in) (Nat.le_of_ble_eq_true rfl) ?_
    refine j_bne (pc := 15) (tgt := 20) dX7_adorns_15 rfl (fun zc15 => ?_) (fun zc15 => ?_)
    · obtain ⟨j, hj, rfl⟩ := jlt_nat (n := n) (by omega) (by rw [← hdd]; exact zc5)
      have hj6 : j < 6 := by omega
      refine j_aload_n (pc := 20) dX7_adorns_20 rfl ?_
      refine j_v0n (pc := 21) (ci := 7) dX7_adorns_21 mc_X7_remembers ml_X7_199 im_X7_remembers se_X7_remembers rfl rfl (by apply lkE; (with_reducible first | exact lkM_129 hp | exact lkM_133 hp | exact lkM_144 hp | exact lkM_134 hp | exact lkM_130 hp | exact lkM_131 hp | exact lkM_132 hp | exact lkM_135 hp | exact lkM_136 hp | exact lkM_137 hp | exact lkM_138 hp | exact lkM_145 hp | exact lkM_146 hp | exact lkM_139 hp | exact lkM_140 hp | exact lkM_141 hp | exact lkM_142 hp | exact lkM_143 hp); rfl) (by omega) (m_remembers hp hkn hq) (Nat.le_of_ble_eq_true rfl) ?_
      refine j_aload_n (pc := 24) dX7_adorns_24 rfl ?_
      refine j_getf (pc := 25) dX7_adorns_25 fl_X7_26 (by apply lkE; (with_reducible first | exact lkM_129 hp | exact lkM_133 hp | exact lkM_144 hp | exact lkM_134 hp | exact lkM_130 hp | exact lkM_131 hp | exact lkM_132 hp | exact lkM_135 hp | exact lkM_136 hp | exact lkM_137 hp | exact lkM_138 hp | exact lkM_145 hp | exact lkM_146 hp | exact lkM_139 hp | exact lkM_140 hp | exact lkM_141 hp | exact lkM_142 hp | exact lkM_143 hp); rfl) rfl ?_
      refine j_iconst (pc := 28) dX7_adorns_28 kc_3 ?_
      refine j_iload_n (pc := 29) dX7_adorns_29 rfl ?_
      refine j_iadd (pc := 30) dX7_adorns_30 ?_
      refine j_ialdE (pc := 31) dX7_adorns_31 (by apply lkE; (with_reducible first | exact lkM_129 hp | exact lkM_133 hp | exact lkM_144 hp | exact lkM_134 hp | exact lkM_130 hp | exact lkM_131 hp | exact lkM_132 hp | exact lkM_135 hp | exact lkM_136 hp | exact lkM_137 hp | exact lkM_138 hp | exact lkM_145 hp | exact lkM_146 hp | exact lkM_139 hp | exact lkM_140 hp | exact lkM_141 hp | exact lkM_142 hp | exact lkM_143 hp); rfl) rfl (nIa 3 j) (by omega) (by decide) ?_
      refine j_istore_n (pc := 32) dX7_adorns_32 rfl (Nat.le_of_ble_eq_true rfl) rfl ?_
      refine j_aload_n (pc := 33) dX7_adorns_33 rfl ?_
      refine j_getf (pc := 34) dX7_adorns_34 fl_X7_26 (by apply lkE; (with_reducible first | exact lkM_129 hp | exact lkM_133 hp | exact lkM_144 hp | exact lkM_134 hp | exact lkM_130 hp | exact lkM_131 hp | exact lkM_132 hp | exact lkM_135 hp | exact lkM_136 hp | exact lkM_137 hp | exact lkM_138 hp | exact lkM_145 hp | exact lkM_146 hp | exact lkM_139 hp | exact lkM_140 hp | exact lkM_141 hp | exact lkM_142 hp | exact lkM_143 hp); rfl) rfl ?_
      refine j_iconst (pc := 37) dX7_adorns_37 kc_3 ?_
      refine j_iload_n (pc := 38) dX7_adorns_38 rfl ?_
      refine j_iadd (pc := 39) dX7_adorns_39 ?_
      refine j_iload_n (pc := 40) dX7_adorns_40 rfl ?_
      refine j_iastE (pc := 41) dX7_adorns_41 (by apply lkE; (with_reducible first | exact lkM_129 hp | exact lkM_133 hp | exact lkM_144 hp | exact lkM_134 hp | exact lkM_130 hp | exact lkM_131 hp | exact lkM_132 hp | exact lkM_135 hp | exact lkM_136 hp | exact lkM_137 hp | exact lkM_138 hp | exact lkM_145 hp | exact lkM_146 hp | exact lkM_139 hp | exact lkM_140 hp | exact lkM_141 hp | exact lkM_142 hp | exact lkM_143 hp); rfl) (nIa 3 j) (by omega) (by decide) (upM_133 hp) ?_
      refine j_iload_n (pc := 42) dX7_adorns_42 rfl ?_
      refine j_ireturn (pc := 43) dX7_adorns_43 rfl ?_
      exact h2 j hj rfl zc15
    · refine j_iconst (pc := 18) dX7_adorns_18 kc_m1 ?_
      refine j_ireturn (pc := 19) dX7_adorns_19 rfl ?_
      first
        | exact h1 (by rw [zc5, Bool.false_and])
        | exact h1 (by rw [zc15, Bool.and_false])

set_option maxRecDepth 20000 in
set_option maxHeartbeats 200000 in
theorem m_sins (hp : pre.length = 129) {l c : Int32} {n : Nat} (hdd : da = nI n) (hn : n ≤ 6) {ne : Nat} (hde : de = nI ne) (hne : ne ≤ 6) {q : Nat} (hkn : kn = nI q) (hq : q ≤ 10) (h1 : (jlt l da && jlt c de) = false → Q (some (.int (-1))) (W2 pre de we da bo be sg pi ru st wa kn im ik tm to tr tx tn cu sa tk nu wr it sd swt sdd sbx sfl sdi sb sst sp sr nw od bs)) (h2 : ∀ j : Nat, j < n → l = nI j → jlt c de = true → (decide (¬ st (15 + j) = -9) || mhas (st (9 + j)) c) = true → Q (some (.int (-2))) (W2 pre de we da bo be sg pi ru st wa kn im ik tm to tr tx tn cu sa tk nu wr it sd swt sdd sbx sfl sdi sb sst sp sr nw od bs)) (h3 : ∀ j : Nat, j < n → l = nI j → jlt c de = true → st (15 + j) = -9 → mhas (st (9 + j)) c = false → Q (some (.int (mbits (st (9 + j) ||| bitI c)))) (W2 pre de we da bo be sg pi ru (upd st (9 + j) (st (9 + j) ||| bitI c)) (reW wa st q) (nI (min (q + 1) 10)) im ik tm to tr tx tn cu sa tk nu wr it sd swt sdd sbx sfl sdi sb sst sp sr nw od bs)) : C g 7 0 0 mX7_sins [.ref 129, .int l, .int c] (W2 pre de we da bo be sg pi ru st wa kn im ik tm to tr tx tn cu sa tk nu wr it sd swt sdd sbx sfl sdi sb sst sp sr nw od bs) Q := by
  refine C.of (by decide +kernel) (by simp [Value.category]) (Nat.le_of_ble_eq_true rfl) ?_
  change J g mX7_sins 7 0 0 _ (W2 pre de we da bo be sg pi ru st wa kn im ik tm to tr tx tn cu sa tk nu wr it sd swt sdd sbx sfl sdi sb sst sp sr nw od bs) 0 [some (.ref 129), some (.int l), some (.int c)] []
  refine j_aload_n (pc := 0) dX7_sins_0 rfl ?_
  refine j_iload_n (pc := 1) dX7_sins_1 rfl ?_
  refine j_v1 (pc := 2) (ci := 7) dX7_sins_2 mc_X7_isDead ml_X7_189 im_X7_isDead se_X7_isDead rfl rfl (by apply lkE; (with_reducible first | exact lkM_129 hp | exact lkM_133 hp | exact lkM_144 hp | exact lkM_134 hp | exact lkM_130 hp | exact lkM_131 hp | exact lkM_132 hp | exact lkM_135 hp | exact lkM_136 hp | exact lkM_137 hp | exact lkM_138 hp | exact lkM_145 hp | exact lkM_146 hp | exact lkM_139 hp | exact lkM_140 hp | exact lkM_141 hp | exact lkM_142 hp | exact lkM_143 hp); rfl) (by omega) (m_isDead hp hdd hn) (Nat.le_of_ble_eq_true rfl) ?_
  refine j_beq (pc := 5) (tgt := 16) dX7_sins_5 rfl (fun zc5 => ?_) (fun zc5 => ?_)
  · refine j_iconst (pc := 16) dX7_sins_16 kc_m1 ?_
    refine j_ireturn (pc := 17) dX7_sins_17 rfl ?_
    first
      | exact h1 (by rw [zc5, Bool.false_and])
      | exact h1 (by rw [zc13, Bool.and_false])
  · refine j_aload_n (pc := 8) dX7_sins_8 rfl ?_
    refine j_iload_n (pc := 9) dX7_sins_9 rfl ?_
    refine j_v1 (pc := 10) (ci := 7) dX7_sins_10 mc_X7_isDeed ml_X7_182 im_X7_isDeed se_X7_isDeed rfl rfl (by apply lkE; (with_reducible first | exact lkM_129 hp | exact lkM_133 hp | exact lkM_144 hp | exact lkM_134 hp | exact lkM_130 hp | exact lkM_131 hp | exact lkM_132 hp | exact lkM_135 hp | exact lkM_136 hp | exact lkM_137 hp | exact lkM_138 hp | exact lkM_145 hp | exact lkM_146 hp | exact lkM_139 hp | exact lkM_140 hp | exact lkM_141 hp | exact lkM_142 hp | exact lkM_143 hp); rfl) (by omega) (m_isDeed hp hde hne) (Nat.le_of_ble_eq_true rfl) ?_
    refine j_bne (pc := 13) (tgt := 18) dX7_sins_13 rfl (fun zc13 => ?_) (fun zc13 => ?_)
    · obtain ⟨j, hj, rfl⟩ := jlt_nat (n := n) (by omega) (by rw [← hdd]; exact zc5)
      have hj6 : j < 6 := by omega
      refine j_aload_n (pc := 18) dX7_sins_18 rfl ?_
      refine j_getf (pc := 19) dX7_sins_19 fl_X7_26 (by apply lkE; (with_reducible first | exact lkM_129 hp | exact lkM_133 hp | exact lkM_144 hp | exact lkM_134 hp | exact lkM_130 hp | exact lkM_131 hp | exact lkM_132 hp | exact lkM_135 hp | exact lkM_136 hp | exact lkM_137 hp | exact lkM_138 hp | exact lkM_145 hp | exact lkM_146 hp | exact lkM_139 hp | exact lkM_140 hp | exact lkM_141 hp | exact lkM_142 hp | exact lkM_143 hp); rfl) rfl ?_
      refine j_bipush (pc := 22) dX7_sins_22 kb_15 ?_
      refine j_iload_n (pc := 24) dX7_sins_24 rfl ?_
      refine j_iadd (pc := 25) dX7_sins_25 ?_
      refine j_ialdE (pc := 26) dX7_sins_26 (by apply lkE; (with_reducible first | exact lkM_129 hp | exact lkM_133 hp | exact lkM_144 hp | exact lkM_134 hp | exact lkM_130 hp | exact lkM_131 hp | exact lkM_132 hp | exact lkM_135 hp | exact lkM_136 hp | exact lkM_137 hp | exact lkM_138 hp | exact lkM_145 hp | exact lkM_146 hp | exact lkM_139 hp | exact lkM_140 hp | exact lkM_141 hp | exact lkM_142 hp | exact lkM_143 hp); rfl) rfl (nIa 15 j) (by omega) (by decide) ?_
      refine j_bipush (pc := 27) dX7_sins_27 kb_m9 ?_
      refine j_icmp_ne (pc := 29) (tgt := 48) dX7_sins_29 rfl (fun zc29 => ?_) (fun zc29 => ?_)
      · refine j_bipush (pc := 48) dX7_sins_48 kb_m2 ?_
        refine j_ireturn (pc := 50) dX7_sins_50 rfl ?_
        exact h2 j hj rfl zc13 (by simp [*])
      · refine j_aload_n (pc := 32) dX7_sins_32 rfl ?_
        refine j_getf (pc := 33) dX7_sins_33 fl_X7_26 (by apply lkE; (with_reducible first | exact lkM_129 hp | exact lkM_133 hp | exact lkM_144 hp | exact lkM_134 hp | exact lkM_130 hp | exact lkM_131 hp | exact lkM_132 hp | exact lkM_135 hp | exact lkM_136 hp | exact lkM_137 hp | exact lkM_138 hp | exact lkM_145 hp | exact lkM_146 hp | exact lkM_139 hp | exact lkM_140 hp | exact lkM_141 hp | exact lkM_142 hp | exact lkM_143 hp); rfl) rfl ?_
        refine j_bipush (pc := 36) dX7_sins_36 kb_9 ?_
        refine j_iload_n (pc := 38) dX7_sins_38 rfl ?_
        refine j_iadd (pc := 39) dX7_sins_39 ?_
        refine j_ialdE (pc := 40) dX7_sins_40 (by apply lkE; (with_reducible first | exact lkM_129 hp | exact lkM_133 hp | exact lkM_144 hp | exact lkM_134 hp | exact lkM_130 hp | exact lkM_131 hp | exact lkM_132 hp | exact lkM_135 hp | exact lkM_136 hp | exact lkM_137 hp | exact lkM_138 hp | exact lkM_145 hp | exact lkM_146 hp | exact lkM_139 hp | exact lkM_140 hp | exact lkM_141 hp | exact lkM_142 hp | exact lkM_143 hp); rfl) rfl (nIa 9 j) (by omega) (by decide) ?_
        refine j_iload_n (pc := 41) dX7_sins_41 rfl ?_
        refine j_s2 (pc := 42) dX7_sins_42 mc_X7_has ml_X7_119 sm_X7_has (by omega) (m_has) (Nat.le_of_ble_eq_true rfl) ?_
        refine j_beq (pc := 45) (tgt := 51) dX7_sins_45 rfl (fun zc45 => ?_) (fun zc45 => ?_)
        · refine j_aload_n (pc := 51) dX7_sins_51 rfl ?_
          refine j_v0n (pc := 52) (ci := 7) dX7_sins_52 mc_X7_remembers ml_X7_199 im_X7_remembers se_X7_remembers rfl rfl (by apply lkE; (with_reducible first | exact lkM_129 hp | exact lkM_133 hp | exact lkM_144 hp | exact lkM_134 hp | exact lkM_130 hp | exact lkM_131 hp | exact lkM_132 hp | exact lkM_135 hp | exact lkM_136 hp | exact lkM_137 hp | exact lkM_138 hp | exact lkM_145 hp | exact lkM_146 hp | exact lkM_139 hp | exact lkM_140 hp | exact lkM_141 hp | exact lkM_142 hp | exact lkM_143 hp); rfl) (by omega) (m_remembers hp hkn hq) (Nat.le_of_ble_eq_true rfl) ?_
          refine j_aload_n (pc := 55) dX7_sins_55 rfl ?_
          refine j_getf (pc := 56) dX7_sins_56 fl_X7_26 (by apply lkE; (with_reducible first | exact lkM_129 hp | exact lkM_133 hp | exact lkM_144 hp | exact lkM_134 hp | exact lkM_130 hp | exact lkM_131 hp | exact lkM_132 hp | exact lkM_135 hp | exact lkM_136 hp | exact lkM_137 hp | exact lkM_138 hp | exact lkM_145 hp | exact lkM_146 hp | exact lkM_139 hp | exact lkM_140 hp | exact lkM_141 hp | exact lkM_142 hp | exact lkM_143 hp); rfl) rfl ?_
          refine j_bipush (pc := 59) dX7_sins_59 kb_9 ?_
          refine j_iload_n (pc := 61) dX7_sins_61 rfl ?_
          refine j_iadd (pc := 62) dX7_sins_62 ?_
          refine j_dup2 (pc := 63) dX7_sins_63 rfl rfl ?_
          refine j_ialdE (pc := 64) dX7_sins_64 (by apply lkE; (with_reducible first | exact lkM_129 hp | exact lkM_133 hp | exact lkM_144 hp | exact lkM_134 hp | exact lkM_130 hp | exact lkM_131 hp | exact lkM_132 hp | exact lkM_135 hp | exact lkM_136 hp | exact lkM_137 hp | exact lkM_138 hp | exact lkM_145 hp | exact lkM_146 hp | exact lkM_139 hp | exact lkM_140 hp | exact lkM_141 hp | exact lkM_142 hp | exact lkM_143 hp); rfl) rfl (nIa 9 j) (by omega) (by decide) ?_
          refine j_iconst (pc := 65) dX7_sins_65 kc_1 ?_
          refine j_iload_n (pc := 66) dX7_sins_66 rfl ?_
          refine j_ishl (pc := 67) dX7_sins_67 ?_
          refine j_ior (pc := 68) dX7_sins_68 ?_
          refine j_iastE (pc := 69) dX7_sins_69 (by apply lkE; (with_reducible first | exact lkM_129 hp | exact lkM_133 hp | exact lkM_144 hp | exact lkM_134 hp | exact lkM_130 hp | exact lkM_131 hp | exact lkM_132 hp | exact lkM_135 hp | exact lkM_136 hp | exact lkM_137 hp | exact lkM_138 hp | exact lkM_145 hp | exact lkM_146 hp | exact lkM_139 hp | exact lkM_140 hp | exact lkM_141 hp | exact lkM_142 hp | exact lkM_143 hp); rfl) (nIa 9 j) (by omega) (by decide) (upM_133 hp) ?_
          refine j_aload_n (pc := 70) dX7_sins_70 rfl ?_
          refine j_getf (pc := 71) dX7_sins_71 fl_X7_26 (by apply lkE; (with_reducible first | exact lkM_129 hp | exact lkM_133 hp | exact lkM_144 hp | exact lkM_134 hp | exact lkM_130 hp | exact lkM_131 hp | exact lkM_132 hp | exact lkM_135 hp | exact lkM_136 hp | exact lkM_137 hp | exact lkM_138 hp | exact lkM_145 hp | exact lkM_146 hp | exact lkM_139 hp | exact lkM_140 hp | exact lkM_141 hp | exact lkM_142 hp | exact lkM_143 hp); rfl) rfl ?_
          refine j_bipush (pc := 74) dX7_sins_74 kb_9 ?_
          refine j_iload_n (pc := 76) dX7_sins_76 rfl ?_
          refine j_iadd (pc := 77) dX7_sins_77 ?_
          refine j_ialdE (pc := 78) dX7_sins_78 (by apply lkE; (with_reducible first | exact lkM_129 hp | exact lkM_133 hp | exact lkM_144 hp | exact lkM_134 hp | exact lkM_130 hp | exact lkM_131 hp | exact lkM_132 hp | exact lkM_135 hp | exact lkM_136 hp | exact lkM_137 hp | exact lkM_138 hp | exact lkM_145 hp | exact lkM_146 hp | exact lkM_139 hp | exact lkM_140 hp | exact lkM_141 hp | exact lkM_142 hp | exact lkM_143 hp); rfl) rfl (nIa 9 j) (by omega) (by decide) ?_
          rw [upd_eq]
          refine j_s1 (pc := 79) dX7_sins_79 mc_X7_bits ml_X7_202 sm_X7_bits (by omega) (m_bits) (Nat.le_of_ble_eq_true rfl) ?_
          refine j_ireturn (pc := 82) dX7_sins_82 rfl ?_
          exact h3 j hj rfl zc13 zc29 zc45
        · refine j_bipush (pc := 48) dX7_sins_48 kb_m2 ?_
          refine j_ireturn (pc := 50) dX7_sins_50 rfl ?_
          exact h2 j hj rfl zc13 (by simp [*])
    · refine j_iconst (pc := 16) dX7_sins_16 kc_m1 ?_
      refine j_ireturn (pc := 17) dX7_sins_17 rfl ?_
      first
        | exact h1 (by rw [zc5, Bool.false_and])
        | exact h1 (by rw [zc13, Bool.and_false])

set_option maxRecDepth 20000 in
set_option maxHeartbeats 200000 in
theorem m_oils (hp : pre.length = 129) {c : Int32} {q : Nat} (hkn : kn = nI q) (hq : q ≤ 10) (h1 : jin c 0 9 = false → Q (some (.int (-1))) (W2 pre de we da bo be sg pi ru st wa kn im ik tm to tr tx tn cu sa tk nu wr it sd swt sdd sbx sfl sdi sb sst sp sr nw od bs)) (h2 : jin c 0 9 = true → Q (some (.int (st 2))) (W2 pre de we da bo be sg pi ru (upd st 2 c) (reW wa st q) (nI (min (q + 1) 10)) im ik tm to tr tx tn cu sa tk nu wr it sd swt sdd sbx sfl sdi sb sst sp sr nw od bs)) : C g 7 0 0 mX7_oils [.ref 129, .int c] (W2 pre de we da bo be sg pi ru st wa kn im ik tm to tr tx tn cu sa tk nu wr it sd swt sdd sbx sfl sdi sb sst sp sr nw od bs) Q := by
  refine C.of (by decide +kernel) (by simp [Value.category]) (Nat.le_of_ble_eq_true rfl) ?_
  change J g mX7_oils 7 0 0 _ (W2 pre de we da bo be sg pi ru st wa kn im ik tm to tr tx tn cu sa tk nu wr it sd swt sdd sbx sfl sdi sb sst sp sr nw od bs) 0 [some (.ref 129), some (.int c), none] []
  refine j_iload_n (pc := 0) dX7_oils_0 rfl ?_
  refine j_iconst (pc := 1) dX7_oils_1 kc_0 ?_
  refine j_bipush (pc := 2) dX7_oils_2 kb_9 ?_
  refine j_s3 (pc := 4) dX7_oils_4 mc_X7_in ml_X7_72 sm_X7_in (by omega) (c_in) (Nat.le_of_ble_eq_true rfl) ?_
  refine j_bne (pc := 7) (tgt := 12) dX7_oils_7 rfl (fun zc7 => ?_) (fun zc7 => ?_)
  · refine j_aload_n (pc := 12) dX7_oils_12 rfl ?_
    refine j_v0n (pc := 13) (ci := 7) dX7_oils_13 mc_X7_remembers ml_X7_199 im_X7_remembers se_X7_remembers rfl rfl (by apply lkE; (with_reducible first | exact lkM_129 hp | exact lkM_133 hp | exact lkM_144 hp | exact lkM_134 hp | exact lkM_130 hp | exact lkM_131 hp | exact lkM_132 hp | exact lkM_135 hp | exact lkM_136 hp | exact lkM_137 hp | exact lkM_138 hp | exact lkM_145 hp | exact lkM_146 hp | exact lkM_139 hp | exact lkM_140 hp | exact lkM_141 hp | exact lkM_142 hp | exact lkM_143 hp); rfl) (by omega) (m_remembers hp hkn hq) (Nat.le_of_ble_eq_true rfl) ?_
    refine j_aload_n (pc := 16) dX7_oils_16 rfl ?_
    refine j_getf (pc := 17) dX7_oils_17 fl_X7_26 (by apply lkE; (with_reducible first | exact lkM_129 hp | exact lkM_133 hp | exact lkM_144 hp | exact lkM_134 hp | exact lkM_130 hp | exact lkM_131 hp | exact lkM_132 hp | exact lkM_135 hp | exact lkM_136 hp | exact lkM_137 hp | exact lkM_138 hp | exact lkM_145 hp | exact lkM_146 hp | exact lkM_139 hp | exact lkM_140 hp | exact lkM_141 hp | exact lkM_142 hp | exact lkM_143 hp); rfl) rfl ?_
    refine j_iconst (pc := 20) dX7_oils_20 kc_2 ?_
    refine j_ialdE (pc := 21) dX7_oils_21 (by apply lkE; (with_reducible first | exact lkM_129 hp | exact lkM_133 hp | exact lkM_144 hp | exact lkM_134 hp | exact lkM_130 hp | exact lkM_131 hp | exact lkM_132 hp | exact lkM_135 hp | exact lkM_136 hp | exact lkM_137 hp | exact lkM_138 hp | exact lkM_145 hp | exact lkM_146 hp | exact lkM_139 hp | exact lkM_140 hp | exact lkM_141 hp | exact lkM_142 hp | exact lkM_143 hp); rfl) rfl (rfl : (2 : Int32) = nI 2) (by decide) (by decide) ?_
    refine j_istore_n (pc := 22) dX7_oils_22 rfl (Nat.le_of_ble_eq_true rfl) rfl ?_
    refine j_aload_n (pc := 23) dX7_oils_23 rfl ?_
    refine j_getf (pc := 24) dX7_oils_24 fl_X7_26 (by apply lkE; (with_reducible first | exact lkM_129 hp | exact lkM_133 hp | exact lkM_144 hp | exact lkM_134 hp | exact lkM_130 hp | exact lkM_131 hp | exact lkM_132 hp | exact lkM_135 hp | exact lkM_136 hp | exact lkM_137 hp | exact lkM_138 hp | exact lkM_145 hp | exact lkM_146 hp | exact lkM_139 hp | exact lkM_140 hp | exact lkM_141 hp | exact lkM_142 hp | exact lkM_143 hp); rfl) rfl ?_
    refine j_iconst (pc := 27) dX7_oils_27 kc_2 ?_
    refine j_iload_n (pc := 28) dX7_oils_28 rfl ?_
    refine j_iastE (pc := 29) dX7_oils_29 (by apply lkE; (with_reducible first | exact lkM_129 hp | exact lkM_133 hp | exact lkM_144 hp | exact lkM_134 hp | exact lkM_130 hp | exact lkM_131 hp | exact lkM_132 hp | exact lkM_135 hp | exact lkM_136 hp | exact lkM_137 hp | exact lkM_138 hp | exact lkM_145 hp | exact lkM_146 hp | exact lkM_139 hp | exact lkM_140 hp | exact lkM_141 hp | exact lkM_142 hp | exact lkM_143 hp); rfl) (rfl : (2 : Int32) = nI 2) (by decide) (by decide) (upM_133 hp) ?_
    refine j_iload_n (pc := 30) dX7_oils_30 rfl ?_
    refine j_ireturn (pc := 31) dX7_oils_31 rfl ?_
    exact h2 zc7
  · refine j_iconst (pc := 10) dX7_oils_10 kc_m1 ?_
    refine j_ireturn (pc := 11) dX7_oils_11 rfl ?_
    exact h1 zc7

set_option maxRecDepth 20000 in
set_option maxHeartbeats 200000 in
theorem m_year (hp : pre.length = 129) {q : Nat} (hkn : kn = nI q) (hq : q ≤ 10) (h1 : st 2 = 9 → Q (some (.int (-2))) (W2 pre de we da bo be sg pi ru st wa kn im ik tm to tr tx tn cu sa tk nu wr it sd swt sdd sbx sfl sdi sb sst sp sr nw od bs)) (h2 : ¬ st 2 = 9 → Q (some (.int (st 2 + 1))) (W2 pre de we da bo be sg pi ru (upd st 2 (st 2 + 1)) (reW wa st q) (nI (min (q + 1) 10)) im ik tm to tr tx tn cu sa tk nu wr it sd swt sdd sbx sfl sdi sb sst sp sr nw od bs)) : C g 7 0 0 mX7_year [.ref 129] (W2 pre de we da bo be sg pi ru st wa kn im ik tm to tr tx tn cu sa tk nu wr it sd swt sdd sbx sfl sdi sb sst sp sr nw od bs) Q := by
  refine C.of (by decide +kernel) (by simp [Value.category]) (Nat.le_of_ble_eq_true rfl) ?_
  change J g mX7_year 7 0 0 _ (W2 pre de we da bo be sg pi ru st wa kn im ik tm to tr tx tn cu sa tk nu wr it sd swt sdd sbx sfl sdi sb sst sp sr nw od bs) 0 [some (.ref 129)] []
  refine j_aload_n (pc := 0) dX7_year_0 rfl ?_
  refine j_getf (pc := 1) dX7_year_1 fl_X7_26 (by apply lkE; (with_reducible first | exact lkM_129 hp | exact lkM_133 hp | exact lkM_144 hp | exact lkM_134 hp | exact lkM_130 hp | exact lkM_131 hp | exact lkM_132 hp | exact lkM_135 hp | exact lkM_136 hp | exact lkM_137 hp | exact lkM_138 hp | exact lkM_145 hp | exact lkM_146 hp | exact lkM_139 hp | exact lkM_140 hp | exact lkM_141 hp | exact lkM_142 hp | exact lkM_143 hp); rfl) rfl ?_
  refine j_iconst (pc := 4) dX7_year_4 kc_2 ?_
  refine j_ialdE (pc := 5) dX7_year_5 (by apply lkE; (with_reducible first | exact lkM_129 hp | exact lkM_133 hp | exact lkM_144 hp | exact lkM_134 hp | exact lkM_130 hp | exact lkM_131 hp | exact lkM_132 hp | exact lkM_135 hp | exact lkM_136 hp | exact lkM_137 hp | exact lkM_138 hp | exact lkM_145 hp | exact lkM_146 hp | exact lkM_139 hp | exact lkM_140 hp | exact lkM_141 hp | exact lkM_142 hp | exact lkM_143 hp); rfl) rfl (rfl : (2 : Int32) = nI 2) (by decide) (by decide) ?_
  refine j_bipush (pc := 6) dX7_year_6 kb_9 ?_
  refine j_icmp_ne (pc := 8) (tgt := 14) dX7_year_8 rfl (fun zc8 => ?_) (fun zc8 => ?_)
  · refine j_aload_n (pc := 14) dX7_year_14 rfl ?_
    refine j_v0n (pc := 15) (ci := 7) dX7_year_15 mc_X7_remembers ml_X7_199 im_X7_remembers se_X7_remembers rfl rfl (by apply lkE; (with_reducible first | exact lkM_129 hp | exact lkM_133 hp | exact lkM_144 hp | exact lkM_134 hp | exact lkM_130 hp | exact lkM_131 hp | exact lkM_132 hp | exact lkM_135 hp | exact lkM_136 hp | exact lkM_137 hp | exact lkM_138 hp | exact lkM_145 hp | exact lkM_146 hp | exact lkM_139 hp | exact lkM_140 hp | exact lkM_141 hp | exact lkM_142 hp | exact lkM_143 hp); rfl) (by omega) (m_remembers hp hkn hq) (Nat.le_of_ble_eq_true rfl) ?_
    refine j_aload_n (pc := 18) dX7_year_18 rfl ?_
    refine j_getf (pc := 19) dX7_year_19 fl_X7_26 (by apply lkE; (with_reducible first | exact lkM_129 hp | exact lkM_133 hp | exact lkM_144 hp | exact lkM_134 hp | exact lkM_130 hp | exact lkM_131 hp | exact lkM_132 hp | exact lkM_135 hp | exact lkM_136 hp | exact lkM_137 hp | exact lkM_138 hp | exact lkM_145 hp | exact lkM_146 hp | exact lkM_139 hp | exact lkM_140 hp | exact lkM_141 hp | exact lkM_142 hp | exact lkM_143 hp); rfl) rfl ?_
    refine j_iconst (pc := 22) dX7_year_22 kc_2 ?_
    refine j_dup2 (pc := 23) dX7_year_23 rfl rfl ?_
    refine j_ialdE (pc := 24) dX7_year_24 (by apply lkE; (with_reducible first | exact lkM_129 hp | exact lkM_133 hp | exact lkM_144 hp | exact lkM_134 hp | exact lkM_130 hp | exact lkM_131 hp | exact lkM_132 hp | exact lkM_135 hp | exact lkM_136 hp | exact lkM_137 hp | exact lkM_138 hp | exact lkM_145 hp | exact lkM_146 hp | exact lkM_139 hp | exact lkM_140 hp | exact lkM_141 hp | exact lkM_142 hp | exact lkM_143 hp); rfl) rfl (rfl : (2 : Int32) = nI 2) (by decide) (by decide) ?_
    refine j_iconst (pc := 25) dX7_year_25 kc_1 ?_
    refine j_iadd (pc := 26) dX7_year_26 ?_
    refine j_iastE (pc := 27) dX7_year_27 (by apply lkE; (with_reducible first | exact lkM_129 hp | exact lkM_133 hp | exact lkM_144 hp | exact lkM_134 hp | exact lkM_130 hp | exact lkM_131 hp | exact lkM_132 hp | exact lkM_135 hp | exact lkM_136 hp | exact lkM_137 hp | exact lkM_138 hp | exact lkM_145 hp | exact lkM_146 hp | exact lkM_139 hp | exact lkM_140 hp | exact lkM_141 hp | exact lkM_142 hp | exact lkM_143 hp); rfl) (rfl : (2 : Int32) = nI 2) (by decide) (by decide) (upM_133 hp) ?_
    refine j_aload_n (pc := 28) dX7_year_28 rfl ?_
    refine j_getf (pc := 29) dX7_year_29 fl_X7_26 (by apply lkE; (with_reducible first | exact lkM_129 hp | exact lkM_133 hp | exact lkM_144 hp | exact lkM_134 hp | exact lkM_130 hp | exact lkM_131 hp | exact lkM_132 hp | exact lkM_135 hp | exact lkM_136 hp | exact lkM_137 hp | exact lkM_138 hp | exact lkM_145 hp | exact lkM_146 hp | exact lkM_139 hp | exact lkM_140 hp | exact lkM_141 hp | exact lkM_142 hp | exact lkM_143 hp); rfl) rfl ?_
    refine j_iconst (pc := 32) dX7_year_32 kc_2 ?_
    refine j_ialdE (pc := 33) dX7_year_33 (by apply lkE; (with_reducible first | exact lkM_129 hp | exact lkM_133 hp | exact lkM_144 hp | exact lkM_134 hp | exact lkM_130 hp | exact lkM_131 hp | exact lkM_132 hp | exact lkM_135 hp | exact lkM_136 hp | exact lkM_137 hp | exact lkM_138 hp | exact lkM_145 hp | exact lkM_146 hp | exact lkM_139 hp | exact lkM_140 hp | exact lkM_141 hp | exact lkM_142 hp | exact lkM_143 hp); rfl) rfl (rfl : (2 : Int32) = nI 2) (by decide) (by decide) ?_
    refine j_ireturn (pc := 34) dX7_year_34 rfl ?_
    exact h2 zc8
  · refine j_bipush (pc := 11) dX7_year_11 kb_m2 ?_
    refine j_ireturn (pc := 13) dX7_year_13 rfl ?_
    exact h1 zc8

set_option maxRecDepth 20000 in
set_option maxHeartbeats 200000 in
theorem m_undo0 (hp : pre.length = 129) (hkn : kn = 0) (h1 : Q (some (.int (-2))) (W2 pre de we da bo be sg pi ru st wa kn im ik tm to tr tx tn cu sa tk nu wr it sd swt sdd sbx sfl sdi sb sst sp sr nw od bs)) : C g 7 0 0 mX7_undo [.ref 129] (W2 pre de we da bo be sg pi ru st wa kn im ik tm to tr tx tn cu sa tk nu wr it sd swt sdd sbx sfl sdi sb sst sp sr nw od bs) Q := by
  refine C.of (by decide +kernel) (by simp [Value.category]) (Nat.le_of_ble_eq_true rfl) ?_
  change J g mX7_undo 7 0 0 _ (W2 pre de we da bo be sg pi ru st wa kn im ik tm to tr tx tn cu sa tk nu wr it sd swt sdd sbx sfl sdi sb sst sp sr nw od bs) 0 [some (.ref 129)] []
  refine j_aload_n (pc := 0) dX7_undo_0 rfl ?_
  refine j_getf (pc := 1) dX7_undo_1 fl_X7_154 (by apply lkE; (with_reducible first | exact lkM_129 hp | exact lkM_133 hp | exact lkM_144 hp | exact lkM_134 hp | exact lkM_130 hp | exact lkM_131 hp | exact lkM_132 hp | exact lkM_135 hp | exact lkM_136 hp | exact lkM_137 hp | exact lkM_138 hp | exact lkM_145 hp | exact lkM_146 hp | exact lkM_139 hp | exact lkM_140 hp | exact lkM_141 hp | exact lkM_142 hp | exact lkM_143 hp); rfl) rfl ?_
  refine j_if_ne (pc := 4) (tgt := 10) dX7_undo_4 rfl (fun zc4 => absurd hkn zc4) (fun _ => ?_)
  refine j_bipush (pc := 7) dX7_undo_7 kb_m2 ?_
  refine j_ireturn (pc := 9) dX7_undo_9 rfl ?_
  exact h1

set_option maxRecDepth 20000 in
set_option maxHeartbeats 200000 in
theorem m_undo1 (hp : pre.length = 129) {q2 : Nat} (hkn : kn = nI (q2 + 1)) (hq : q2 < 10) (h1 : Q (some (.int (nI q2))) (W2 pre de we da bo be sg pi ru (cpyF st wa 0 (21 * q2) 21) wa (nI q2) im ik tm to tr tx tn cu sa tk nu wr it sd swt sdd sbx sfl sdi sb sst sp sr nw od bs)) : C g 7 0 0 mX7_undo [.ref 129] (W2 pre de we da bo be sg pi ru st wa kn im ik tm to tr tx tn cu sa tk nu wr it sd swt sdd sbx sfl sdi sb sst sp sr nw od bs) Q := by
  refine C.of (by decide +kernel) (by simp [Value.category]) (Nat.le_of_ble_eq_true rfl) ?_
  change J g mX7_undo 7 0 0 _ (W2 pre de we da bo be sg pi ru st wa kn im ik tm to tr tx tn cu sa tk nu wr it sd swt sdd sbx sfl sdi sb sst sp sr nw od bs) 0 [some (.ref 129)] []
  refine j_aload_n (pc := 0) dX7_undo_0 rfl ?_
  refine j_getf (pc := 1) dX7_undo_1 fl_X7_154 (by apply lkE; (with_reducible first | exact lkM_129 hp | exact lkM_133 hp | exact lkM_144 hp | exact lkM_134 hp | exact lkM_130 hp | exact lkM_131 hp | exact lkM_132 hp | exact lkM_135 hp | exact lkM_136 hp | exact lkM_137 hp | exact lkM_138 hp | exact lkM_145 hp | exact lkM_146 hp | exact lkM_139 hp | exact lkM_140 hp | exact lkM_141 hp | exact lkM_142 hp | exact lkM_143 hp); rfl) rfl ?_
  refine j_if_ne (pc := 4) (tgt := 10) dX7_undo_4 rfl (fun _ => ?_) (fun zc4 => absurd zc4 (by rw [hkn]; exact nI_ne0 (n := q2 + 1) (by omega) (by omega)))
  refine j_aload_n (pc := 10) dX7_undo_10 rfl ?_
  refine j_dup (pc := 11) dX7_undo_11 rfl ?_
  refine j_getf (pc := 12) dX7_undo_12 fl_X7_154 (by apply lkE; (with_reducible first | exact lkM_129 hp | exact lkM_133 hp | exact lkM_144 hp | exact lkM_134 hp | exact lkM_130 hp | exact lkM_131 hp | exact lkM_132 hp | exact lkM_135 hp | exact lkM_136 hp | exact lkM_137 hp | exact lkM_138 hp | exact lkM_145 hp | exact lkM_146 hp | exact lkM_139 hp | exact lkM_140 hp | exact lkM_141 hp | exact lkM_142 hp | exact lkM_143 hp); rfl) rfl ?_
  refine j_iconst (pc := 15) dX7_undo_15 kc_1 ?_
  refine j_isub (pc := 16) dX7_undo_16 ?_
  rw [hkn, show nI (q2 + 1) - 1 = nI q2 from nI_pred q2]
  refine j_putf (pc := 17) dX7_undo_17 fl_X7_154 (jfit_i _) (by apply lkE; (with_reducible first | exact lkM_129 hp | exact lkM_133 hp | exact lkM_144 hp | exact lkM_134 hp | exact lkM_130 hp | exact lkM_131 hp | exact lkM_132 hp | exact lkM_135 hp | exact lkM_136 hp | exact lkM_137 hp | exact lkM_138 hp | exact lkM_145 hp | exact lkM_146 hp | exact lkM_139 hp | exact lkM_140 hp | exact lkM_141 hp | exact lkM_142 hp | exact lkM_143 hp); rfl) (upM_129 hp) ?_
  refine j_aload_n (pc := 20) dX7_undo_20 rfl ?_
  refine j_getf (pc := 21) dX7_undo_21 fl_X7_26 (by apply lkE; (with_reducible first | exact lkM_129 hp | exact lkM_133 hp | exact lkM_144 hp | exact lkM_134 hp | exact lkM_130 hp | exact lkM_131 hp | exact lkM_132 hp | exact lkM_135 hp | exact lkM_136 hp | exact lkM_137 hp | exact lkM_138 hp | exact lkM_145 hp | exact lkM_146 hp | exact lkM_139 hp | exact lkM_140 hp | exact lkM_141 hp | exact lkM_142 hp | exact lkM_143 hp); rfl) rfl ?_
  refine j_iconst (pc := 24) dX7_undo_24 kc_0 ?_
  refine j_aload_n (pc := 25) dX7_undo_25 rfl ?_
  refine j_getf (pc := 26) dX7_undo_26 fl_X7_29 (by apply lkE; (with_reducible first | exact lkM_129 hp | exact lkM_133 hp | exact lkM_144 hp | exact lkM_134 hp | exact lkM_130 hp | exact lkM_131 hp | exact lkM_132 hp | exact lkM_135 hp | exact lkM_136 hp | exact lkM_137 hp | exact lkM_138 hp | exact lkM_145 hp | exact lkM_146 hp | exact lkM_139 hp | exact lkM_140 hp | exact lkM_141 hp | exact lkM_142 hp | exact lkM_143 hp); rfl) rfl ?_
  refine j_bipush (pc := 29) dX7_undo_29 kb_21 ?_
  refine j_aload_n (pc := 31) dX7_undo_31 rfl ?_
  refine j_getf (pc := 32) dX7_undo_32 fl_X7_154 (by apply lkE; (with_reducible first | exact lkM_129 hp | exact lkM_133 hp | exact lkM_144 hp | exact lkM_134 hp | exact lkM_130 hp | exact lkM_131 hp | exact lkM_132 hp | exact lkM_135 hp | exact lkM_136 hp | exact lkM_137 hp | exact lkM_138 hp | exact lkM_145 hp | exact lkM_146 hp | exact lkM_139 hp | exact lkM_140 hp | exact lkM_141 hp | exact lkM_142 hp | exact lkM_143 hp); rfl) rfl ?_
  refine j_imul (pc := 35) dX7_undo_35 ?_
  rw [mul21 (by omega)]
  refine j_s4n (pc := 36) dX7_undo_36 mc_X7_copy ml_X7_160 sm_X7_copy (by omega) (CD.heap (upM_133 hp) (m_copy (p := 0) (q := 21 * q2) (by decide) (by omega) (by omega) (by decide) (by decide) (lkM_133 hp) (lkM_134 hp))) (Nat.le_of_ble_eq_true rfl) ?_
  refine j_aload_n (pc := 39) dX7_undo_39 rfl ?_
  refine j_getf (pc := 40) dX7_undo_40 fl_X7_154 (by apply lkE; (with_reducible first | exact lkM_129 hp | exact lkM_133 hp | exact lkM_144 hp | exact lkM_134 hp | exact lkM_130 hp | exact lkM_131 hp | exact lkM_132 hp | exact lkM_135 hp | exact lkM_136 hp | exact lkM_137 hp | exact lkM_138 hp | exact lkM_145 hp | exact lkM_146 hp | exact lkM_139 hp | exact lkM_140 hp | exact lkM_141 hp | exact lkM_142 hp | exact lkM_143 hp); rfl) rfl ?_
  refine j_ireturn (pc := 43) dX7_undo_43 rfl ?_
  exact h1

set_option maxRecDepth 20000 in
set_option maxHeartbeats 200000 in
theorem m_tells (hp : pre.length = 129) {b v : Int32} {nt : Nat} (htm : tm = nI nt) (hnt : nt ≤ 6) (h1 : (jin b 1 40 && jin v 0 99) = false → Q (some (.int (-1))) (W2 pre de we da bo be sg pi ru st wa kn im ik tm to tr tx tn cu sa tk nu wr it sd swt sdd sbx sfl sdi sb sst sp sr nw od bs)) (h2 : jin b 1 40 = true → jin v 0 99 = true → nt = 6 → Q (some (.int (-3))) (W2 pre de we da bo be sg pi ru st wa kn im ik tm to tr tx tn cu sa tk nu wr it sd swt sdd sbx sfl sdi sb sst sp sr nw od bs)) (h3 : jin b 1 40 = true → jin v 0 99 = true → nt < 6 → Q (some (.int (tm + 1))) (W2 pre de we da bo be sg pi ru st wa kn im ik (tm + 1) (upd (upd to (2 * nt) b) (2 * nt + 1) v) tr tx tn cu sa tk nu wr it sd swt sdd sbx sfl sdi sb sst sp sr nw od bs)) : C g 7 0 0 mX7_tells [.ref 129, .int b, .int v] (W2 pre de we da bo be sg pi ru st wa kn im ik tm to tr tx tn cu sa tk nu wr it sd swt sdd sbx sfl sdi sb sst sp sr nw od bs) Q := by
  refine C.of (by decide +kernel) (by simp [Value.category]) (Nat.le_of_ble_eq_true rfl) ?_
  change J g mX7_tells 7 0 0 _ (W2 pre de we da bo be sg pi ru st wa kn im ik tm to tr tx tn cu sa tk nu wr it sd swt sdd sbx sfl sdi sb sst sp sr nw od bs) 0 [some (.ref 129), some (.int b), some (.int v)] []
  refine j_iload_n (pc := 0) dX7_tells_0 rfl ?_
  refine j_iconst (pc := 1) dX7_tells_1 kc_1 ?_
  refine j_bipush (pc := 2) dX7_tells_2 kb_40 ?_
  refine j_s3 (pc := 4) dX7_tells_4 mc_X7_in ml_X7_72 sm_X7_in (by omega) (c_in) (Nat.le_of_ble_eq_true rfl) ?_
  refine j_beq (pc := 7) (tgt := 20) dX7_tells_7 rfl (fun zc7 => ?_) (fun zc7 => ?_)
  · refine j_iconst (pc := 20) dX7_tells_20 kc_m1 ?_
    refine j_ireturn (pc := 21) dX7_tells_21 rfl ?_
    first
      | exact h1 (by rw [zc7, Bool.false_and])
      | exact h1 (by rw [zc17, Bool.and_false])
  · refine j_iload_n (pc := 10) dX7_tells_10 rfl ?_
    refine j_iconst (pc := 11) dX7_tells_11 kc_0 ?_
    refine j_bipush (pc := 12) dX7_tells_12 kb_99 ?_
    refine j_s3 (pc := 14) dX7_tells_14 mc_X7_in ml_X7_72 sm_X7_in (by omega) (c_in) (Nat.le_of_ble_eq_true rfl) ?_
    refine j_bne (pc := 17) (tgt := 22) dX7_tells_17 rfl (fun zc17 => ?_) (fun zc17 => ?_)
    · refine j_aload_n (pc := 22) dX7_tells_22 rfl ?_
      refine j_getf (pc := 23) dX7_tells_23 fl_X7_157 (by apply lkE; (with_reducible first | exact lkM_129 hp | exact lkM_133 hp | exact lkM_144 hp | exact lkM_134 hp | exact lkM_130 hp | exact lkM_131 hp | exact lkM_132 hp | exact lkM_135 hp | exact lkM_136 hp | exact lkM_137 hp | exact lkM_138 hp | exact lkM_145 hp | exact lkM_146 hp | exact lkM_139 hp | exact lkM_140 hp | exact lkM_141 hp | exact lkM_142 hp | exact lkM_143 hp); rfl) rfl ?_
      refine j_bipush (pc := 26) dX7_tells_26 kb_6 ?_
      refine j_icmp_ne (pc := 28) (tgt := 34) dX7_tells_28 rfl (fun zc28 => ?_) (fun zc28 => ?_)
      · have h6 : nt < 6 := by
          by_cases e : nt = 6
          · subst e
            exact absurd htm zc28
          · omega
        refine j_aload_n (pc := 34) dX7_tells_34 rfl ?_
        refine j_getf (pc := 35) dX7_tells_35 fl_X7_39 (by apply lkE; (with_reducible first | exact lkM_129 hp | exact lkM_133 hp | exact lkM_144 hp | exact lkM_134 hp | exact lkM_130 hp | exact lkM_131 hp | exact lkM_132 hp | exact lkM_135 hp | exact lkM_136 hp | exact lkM_137 hp | exact lkM_138 hp | exact lkM_145 hp | exact lkM_146 hp | exact lkM_139 hp | exact lkM_140 hp | exact lkM_141 hp | exact lkM_142 hp | exact lkM_143 hp); rfl) rfl ?_
        refine j_iconst (pc := 38) dX7_tells_38 kc_2 ?_
        refine j_aload_n (pc := 39) dX7_tells_39 rfl ?_
        refine j_getf (pc := 40) dX7_tells_40 fl_X7_157 (by apply lkE; (with_reducible first | exact lkM_129 hp | exact lkM_133 hp | exact lkM_144 hp | exact lkM_134 hp | exact lkM_130 hp | exact lkM_131 hp | exact lkM_132 hp | exact lkM_135 hp | exact lkM_136 hp | exact lkM_137 hp | exact lkM_138 hp | exact lkM_145 hp | exact lkM_146 hp | exact lkM_139 hp | exact lkM_140 hp | exact lkM_141 hp | exact lkM_142 hp | exact lkM_143 hp); rfl) rfl ?_
        refine j_imul (pc := 43) dX7_tells_43 ?_
        refine j_iload_n (pc := 44) dX7_tells_44 rfl ?_
        refine j_iastE (pc := 45) dX7_tells_45 (by apply lkE; (with_reducible first | exact lkM_129 hp | exact lkM_133 hp | exact lkM_144 hp | exact lkM_134 hp | exact lkM_130 hp | exact lkM_131 hp | exact lkM_132 hp | exact lkM_135 hp | exact lkM_136 hp | exact lkM_137 hp | exact lkM_138 hp | exact lkM_145 hp | exact lkM_146 hp | exact lkM_139 hp | exact lkM_140 hp | exact lkM_141 hp | exact lkM_142 hp | exact lkM_143 hp); rfl) (show 2 * tm = nI (2 * nt) by rw [htm, mul2 (by omega)]) (by omega) (by decide) (upM_137 hp) ?_
        refine j_aload_n (pc := 46) dX7_tells_46 rfl ?_
        refine j_getf (pc := 47) dX7_tells_47 fl_X7_39 (by apply lkE; (with_reducible first | exact lkM_129 hp | exact lkM_133 hp | exact lkM_144 hp | exact lkM_134 hp | exact lkM_130 hp | exact lkM_131 hp | exact lkM_132 hp | exact lkM_135 hp | exact lkM_136 hp | exact lkM_137 hp | exact lkM_138 hp | exact lkM_145 hp | exact lkM_146 hp | exact lkM_139 hp | exact lkM_140 hp | exact lkM_141 hp | exact lkM_142 hp | exact lkM_143 hp); rfl) rfl ?_
        refine j_iconst (pc := 50) dX7_tells_50 kc_2 ?_
        refine j_aload_n (pc := 51) dX7_tells_51 rfl ?_
        refine j_getf (pc := 52) dX7_tells_52 fl_X7_157 (by apply lkE; (with_reducible first | exact lkM_129 hp | exact lkM_133 hp | exact lkM_144 hp | exact lkM_134 hp | exact lkM_130 hp | exact lkM_131 hp | exact lkM_132 hp | exact lkM_135 hp | exact lkM_136 hp | exact lkM_137 hp | exact lkM_138 hp | exact lkM_145 hp | exact lkM_146 hp | exact lkM_139 hp | exact lkM_140 hp | exact lkM_141 hp | exact lkM_142 hp | exact lkM_143 hp); rfl) rfl ?_
        refine j_imul (pc := 55) dX7_tells_55 ?_
        refine j_iconst (pc := 56) dX7_tells_56 kc_1 ?_
        refine j_iadd (pc := 57) dX7_tells_57 ?_
        refine j_iload_n (pc := 58) dX7_tells_58 rfl ?_
        refine j_iastE (pc := 59) dX7_tells_59 (by apply lkE; (with_reducible first | exact lkM_129 hp | exact lkM_133 hp | exact lkM_144 hp | exact lkM_134 hp | exact lkM_130 hp | exact lkM_131 hp | exact lkM_132 hp | exact lkM_135 hp | exact lkM_136 hp | exact lkM_137 hp | exact lkM_138 hp | exact lkM_145 hp | exact lkM_146 hp | exact lkM_139 hp | exact lkM_140 hp | exact lkM_141 hp | exact lkM_142 hp | exact lkM_143 hp); rfl) (show 2 * tm + 1 = nI (2 * nt + 1) by rw [htm, mul2 (by omega), nI_s1]) (by omega) (by decide) (upM_137 hp) ?_
        refine j_aload_n (pc := 60) dX7_tells_60 rfl ?_
        refine j_dup (pc := 61) dX7_tells_61 rfl ?_
        refine j_getf (pc := 62) dX7_tells_62 fl_X7_157 (by apply lkE; (with_reducible first | exact lkM_129 hp | exact lkM_133 hp | exact lkM_144 hp | exact lkM_134 hp | exact lkM_130 hp | exact lkM_131 hp | exact lkM_132 hp | exact lkM_135 hp | exact lkM_136 hp | exact lkM_137 hp | exact lkM_138 hp | exact lkM_145 hp | exact lkM_146 hp | exact lkM_139 hp | exact lkM_140 hp | exact lkM_141 hp | exact lkM_142 hp | exact lkM_143 hp); rfl) rfl ?_
        refine j_iconst (pc := 65) dX7_tells_65 kc_1 ?_
        refine j_iadd (pc := 66) dX7_tells_66 ?_
        refine j_putf (pc := 67) dX7_tells_67 fl_X7_157 (jfit_i _) (by apply lkE; (with_reducible first | exact lkM_129 hp | exact lkM_133 hp | exact lkM_144 hp | exact lkM_134 hp | exact lkM_130 hp | exact lkM_131 hp | exact lkM_132 hp | exact lkM_135 hp | exact lkM_136 hp | exact lkM_137 hp | exact lkM_138 hp | exact lkM_145 hp | exact lkM_146 hp | exact lkM_139 hp | exact lkM_140 hp | exact lkM_141 hp | exact lkM_142 hp | exact lkM_143 hp); rfl) (upM_129 hp) ?_
        refine j_aload_n (pc := 70) dX7_tells_70 rfl ?_
        refine j_getf (pc := 71) dX7_tells_71 fl_X7_157 (by apply lkE; (with_reducible first | exact lkM_129 hp | exact lkM_133 hp | exact lkM_144 hp | exact lkM_134 hp | exact lkM_130 hp | exact lkM_131 hp | exact lkM_132 hp | exact lkM_135 hp | exact lkM_136 hp | exact lkM_137 hp | exact lkM_138 hp | exact lkM_145 hp | exact lkM_146 hp | exact lkM_139 hp | exact lkM_140 hp | exact lkM_141 hp | exact lkM_142 hp | exact lkM_143 hp); rfl) rfl ?_
        refine j_ireturn (pc := 74) dX7_tells_74 rfl ?_
        exact h3 zc7 zc17 h6
      · have h6 : nt = 6 := by
          have e := congrArg Int32.toInt (htm.symm.trans zc28)
          rw [nI_toInt (by omega)] at e
          have e2 : (6 : Int32).toInt = 6 := by decide
          omega
        refine j_bipush (pc := 31) dX7_tells_31 kb_m3 ?_
        refine j_ireturn (pc := 33) dX7_tells_33 rfl ?_
        exact h2 zc7 zc17 h6
    · refine j_iconst (pc := 20) dX7_tells_20 kc_m1 ?_
      refine j_ireturn (pc := 21) dX7_tells_21 rfl ?_
      first
        | exact h1 (by rw [zc7, Bool.false_and])
        | exact h1 (by rw [zc17, Bool.and_false])

set_option maxRecDepth 20000 in
set_option maxHeartbeats 200000 in
theorem m_forget (hp : pre.length = 129)  (h1 : Q (some (.int tm)) (W2 pre de we da bo be sg pi ru st wa kn im ik (0) to tr tx tn cu sa tk nu wr it sd swt sdd sbx sfl sdi sb sst sp sr nw od bs)) : C g 7 0 0 mX7_forget [.ref 129] (W2 pre de we da bo be sg pi ru st wa kn im ik tm to tr tx tn cu sa tk nu wr it sd swt sdd sbx sfl sdi sb sst sp sr nw od bs) Q := by
  refine C.of (by decide +kernel) (by simp [Value.category]) (Nat.le_of_ble_eq_true rfl) ?_
  change J g mX7_forget 7 0 0 _ (W2 pre de we da bo be sg pi ru st wa kn im ik tm to tr tx tn cu sa tk nu wr it sd swt sdd sbx sfl sdi sb sst sp sr nw od bs) 0 [some (.ref 129), none] []
  refine j_aload_n (pc := 0) dX7_forget_0 rfl ?_
  refine j_getf (pc := 1) dX7_forget_1 fl_X7_157 (by apply lkE; (with_reducible first | exact lkM_129 hp | exact lkM_133 hp | exact lkM_144 hp | exact lkM_134 hp | exact lkM_130 hp | exact lkM_131 hp | exact lkM_132 hp | exact lkM_135 hp | exact lkM_136 hp | exact lkM_137 hp | exact lkM_138 hp | exact lkM_145 hp | exact lkM_146 hp | exact lkM_139 hp | exact lkM_140 hp | exact lkM_141 hp | exact lkM_142 hp | exact lkM_143 hp); rfl) rfl ?_
  refine j_istore_n (pc := 4) dX7_forget_4 rfl (Nat.le_of_ble_eq_true rfl) rfl ?_
  refine j_aload_n (pc := 5) dX7_forget_5 rfl ?_
  refine j_iconst (pc := 6) dX7_forget_6 kc_0 ?_
  refine j_putf (pc := 7) dX7_forget_7 fl_X7_157 (jfit_i _) (by apply lkE; (with_reducible first | exact lkM_129 hp | exact lkM_133 hp | exact lkM_144 hp | exact lkM_134 hp | exact lkM_130 hp | exact lkM_131 hp | exact lkM_132 hp | exact lkM_135 hp | exact lkM_136 hp | exact lkM_137 hp | exact lkM_138 hp | exact lkM_145 hp | exact lkM_146 hp | exact lkM_139 hp | exact lkM_140 hp | exact lkM_141 hp | exact lkM_142 hp | exact lkM_143 hp); rfl) (upM_129 hp) ?_
  refine j_iload_n (pc := 10) dX7_forget_10 rfl ?_
  refine j_ireturn (pc := 11) dX7_forget_11 rfl ?_
  exact h1

set_option maxRecDepth 20000 in
set_option maxHeartbeats 200000 in
theorem m_keep (hp : pre.length = 129) {c : Int32} (h1 : jin c 0 1 = false → Q (some (.int (-1))) (W2 pre de we da bo be sg pi ru st wa kn im ik tm to tr tx tn cu sa tk nu wr it sd swt sdd sbx sfl sdi sb sst sp sr nw od bs)) (h2 : ∀ j : Nat, j < 2 → c = nI j → Q (some (.int (st 0))) (W2 pre de we da bo be sg pi ru st wa kn (cpyF im st (21 * j) 0 21) (updB ik j true) tm to tr tx tn cu sa tk nu wr it sd swt sdd sbx sfl sdi sb sst sp sr nw od bs)) : C g 7 0 0 mX7_keep [.ref 129, .int c] (W2 pre de we da bo be sg pi ru st wa kn im ik tm to tr tx tn cu sa tk nu wr it sd swt sdd sbx sfl sdi sb sst sp sr nw od bs) Q := by
  refine C.of (by decide +kernel) (by simp [Value.category]) (Nat.le_of_ble_eq_true rfl) ?_
  change J g mX7_keep 7 0 0 _ (W2 pre de we da bo be sg pi ru st wa kn im ik tm to tr tx tn cu sa tk nu wr it sd swt sdd sbx sfl sdi sb sst sp sr nw od bs) 0 [some (.ref 129), some (.int c)] []
  refine j_iload_n (pc := 0) dX7_keep_0 rfl ?_
  refine j_iconst (pc := 1) dX7_keep_1 kc_0 ?_
  refine j_iconst (pc := 2) dX7_keep_2 kc_1 ?_
  refine j_s3 (pc := 3) dX7_keep_3 mc_X7_in ml_X7_72 sm_X7_in (by omega) (c_in) (Nat.le_of_ble_eq_true rfl) ?_
  refine j_bne (pc := 6) (tgt := 11) dX7_keep_6 rfl (fun zc6 => ?_) (fun zc6 => ?_)
  · obtain ⟨j, hj, rfl⟩ := jin_nat (n := 1) (by decide) zc6
    have hj2 : j < 2 := by omega
    refine j_aload_n (pc := 11) dX7_keep_11 rfl ?_
    refine j_getf (pc := 12) dX7_keep_12 fl_X7_32 (by apply lkE; (with_reducible first | exact lkM_129 hp | exact lkM_133 hp | exact lkM_144 hp | exact lkM_134 hp | exact lkM_130 hp | exact lkM_131 hp | exact lkM_132 hp | exact lkM_135 hp | exact lkM_136 hp | exact lkM_137 hp | exact lkM_138 hp | exact lkM_145 hp | exact lkM_146 hp | exact lkM_139 hp | exact lkM_140 hp | exact lkM_141 hp | exact lkM_142 hp | exact lkM_143 hp); rfl) rfl ?_
    refine j_bipush (pc := 15) dX7_keep_15 kb_21 ?_
    refine j_iload_n (pc := 17) dX7_keep_17 rfl ?_
    refine j_imul (pc := 18) dX7_keep_18 ?_
    rw [mul21 (by omega)]
    refine j_aload_n (pc := 19) dX7_keep_19 rfl ?_
    refine j_getf (pc := 20) dX7_keep_20 fl_X7_26 (by apply lkE; (with_reducible first | exact lkM_129 hp | exact lkM_133 hp | exact lkM_144 hp | exact lkM_134 hp | exact lkM_130 hp | exact lkM_131 hp | exact lkM_132 hp | exact lkM_135 hp | exact lkM_136 hp | exact lkM_137 hp | exact lkM_138 hp | exact lkM_145 hp | exact lkM_146 hp | exact lkM_139 hp | exact lkM_140 hp | exact lkM_141 hp | exact lkM_142 hp | exact lkM_143 hp); rfl) rfl ?_
    refine j_iconst (pc := 23) dX7_keep_23 kc_0 ?_
    refine j_s4n (pc := 24) dX7_keep_24 mc_X7_copy ml_X7_160 sm_X7_copy (by omega) (CD.heap (upM_135 hp) (m_copy (p := 21 * j) (q := 0) (by decide) (by omega) (by omega) (by decide) (by decide) (lkM_135 hp) (lkM_133 hp))) (Nat.le_of_ble_eq_true rfl) ?_
    refine j_aload_n (pc := 27) dX7_keep_27 rfl ?_
    refine j_getf (pc := 28) dX7_keep_28 fl_X7_35 (by apply lkE; (with_reducible first | exact lkM_129 hp | exact lkM_133 hp | exact lkM_144 hp | exact lkM_134 hp | exact lkM_130 hp | exact lkM_131 hp | exact lkM_132 hp | exact lkM_135 hp | exact lkM_136 hp | exact lkM_137 hp | exact lkM_138 hp | exact lkM_145 hp | exact lkM_146 hp | exact lkM_139 hp | exact lkM_140 hp | exact lkM_141 hp | exact lkM_142 hp | exact lkM_143 hp); rfl) rfl ?_
    refine j_iload_n (pc := 31) dX7_keep_31 rfl ?_
    refine j_iconst (pc := 32) dX7_keep_32 kc_1 ?_
    refine j_zastE (pc := 33) dX7_keep_33 (show (1 : Int32) = b2i true from rfl) (by apply lkE; (with_reducible first | exact lkM_129 hp | exact lkM_133 hp | exact lkM_144 hp | exact lkM_134 hp | exact lkM_130 hp | exact lkM_131 hp | exact lkM_132 hp | exact lkM_135 hp | exact lkM_136 hp | exact lkM_137 hp | exact lkM_138 hp | exact lkM_145 hp | exact lkM_146 hp | exact lkM_139 hp | exact lkM_140 hp | exact lkM_141 hp | exact lkM_142 hp | exact lkM_143 hp); rfl) rfl (by omega) (by decide) (upM_136 hp) ?_
    refine j_aload_n (pc := 34) dX7_keep_34 rfl ?_
    refine j_getf (pc := 35) dX7_keep_35 fl_X7_26 (by apply lkE; (with_reducible first | exact lkM_129 hp | exact lkM_133 hp | exact lkM_144 hp | exact lkM_134 hp | exact lkM_130 hp | exact lkM_131 hp | exact lkM_132 hp | exact lkM_135 hp | exact lkM_136 hp | exact lkM_137 hp | exact lkM_138 hp | exact lkM_145 hp | exact lkM_146 hp | exact lkM_139 hp | exact lkM_140 hp | exact lkM_141 hp | exact lkM_142 hp | exact lkM_143 hp); rfl) rfl ?_
    refine j_iconst (pc := 38) dX7_keep_38 kc_0 ?_
    refine j_ialdE (pc := 39) dX7_keep_39 (by apply lkE; (with_reducible first | exact lkM_129 hp | exact lkM_133 hp | exact lkM_144 hp | exact lkM_134 hp | exact lkM_130 hp | exact lkM_131 hp | exact lkM_132 hp | exact lkM_135 hp | exact lkM_136 hp | exact lkM_137 hp | exact lkM_138 hp | exact lkM_145 hp | exact lkM_146 hp | exact lkM_139 hp | exact lkM_140 hp | exact lkM_141 hp | exact lkM_142 hp | exact lkM_143 hp); rfl) rfl (rfl : (0 : Int32) = nI 0) (by decide) (by decide) ?_
    refine j_ireturn (pc := 40) dX7_keep_40 rfl ?_
    exact h2 j hj2 rfl
  · refine j_iconst (pc := 9) dX7_keep_9 kc_m1 ?_
    refine j_ireturn (pc := 10) dX7_keep_10 rfl ?_
    exact h1 zc6

set_option maxRecDepth 20000 in
set_option maxHeartbeats 200000 in
theorem m_back (hp : pre.length = 129) {c : Int32} (h1 : jin c 0 1 = false → Q (some (.int (-1))) (W2 pre de we da bo be sg pi ru st wa kn im ik tm to tr tx tn cu sa tk nu wr it sd swt sdd sbx sfl sdi sb sst sp sr nw od bs)) (h2 : ∀ j : Nat, j < 2 → c = nI j → ik j = false → Q (some (.int (-2))) (W2 pre de we da bo be sg pi ru st wa kn im ik tm to tr tx tn cu sa tk nu wr it sd swt sdd sbx sfl sdi sb sst sp sr nw od bs)) (h3 : ∀ j : Nat, j < 2 → c = nI j → ik j = true → Q (some (.int (cpyF st im 0 (21 * j) 21 0))) (W2 pre de we da bo be sg pi ru (cpyF st im 0 (21 * j) 21) wa (0) im ik tm to tr tx tn cu sa tk nu wr it sd swt sdd sbx sfl sdi sb sst sp sr nw od bs)) : C g 7 0 0 mX7_back [.ref 129, .int c] (W2 pre de we da bo be sg pi ru st wa kn im ik tm to tr tx tn cu sa tk nu wr it sd swt sdd sbx sfl sdi sb sst sp sr nw od bs) Q := by
  refine C.of (by decide +kernel) (by simp [Value.category]) (Nat.le_of_ble_eq_true rfl) ?_
  change J g mX7_back 7 0 0 _ (W2 pre de we da bo be sg pi ru st wa kn im ik tm to tr tx tn cu sa tk nu wr it sd swt sdd sbx sfl sdi sb sst sp sr nw od bs) 0 [some (.ref 129), some (.int c)] []
  refine j_iload_n (pc := 0) dX7_back_0 rfl ?_
  refine j_iconst (pc := 1) dX7_back_1 kc_0 ?_
  refine j_iconst (pc := 2) dX7_back_2 kc_1 ?_
  refine j_s3 (pc := 3) dX7_back_3 mc_X7_in ml_X7_72 sm_X7_in (by omega) (c_in) (Nat.le_of_ble_eq_true rfl) ?_
  refine j_bne (pc := 6) (tgt := 11) dX7_back_6 rfl (fun zc6 => ?_) (fun zc6 => ?_)
  · obtain ⟨j, hj, rfl⟩ := jin_nat (n := 1) (by decide) zc6
    have hj2 : j < 2 := by omega
    refine j_aload_n (pc := 11) dX7_back_11 rfl ?_
    refine j_getf (pc := 12) dX7_back_12 fl_X7_35 (by apply lkE; (with_reducible first | exact lkM_129 hp | exact lkM_133 hp | exact lkM_144 hp | exact lkM_134 hp | exact lkM_130 hp | exact lkM_131 hp | exact lkM_132 hp | exact lkM_135 hp | exact lkM_136 hp | exact lkM_137 hp | exact lkM_138 hp | exact lkM_145 hp | exact lkM_146 hp | exact lkM_139 hp | exact lkM_140 hp | exact lkM_141 hp | exact lkM_142 hp | exact lkM_143 hp); rfl) rfl ?_
    refine j_iload_n (pc := 15) dX7_back_15 rfl ?_
    refine j_zaldE (pc := 16) dX7_back_16 (by apply lkE; (with_reducible first | exact lkM_129 hp | exact lkM_133 hp | exact lkM_144 hp | exact lkM_134 hp | exact lkM_130 hp | exact lkM_131 hp | exact lkM_132 hp | exact lkM_135 hp | exact lkM_136 hp | exact lkM_137 hp | exact lkM_138 hp | exact lkM_145 hp | exact lkM_146 hp | exact lkM_139 hp | exact lkM_140 hp | exact lkM_141 hp | exact lkM_142 hp | exact lkM_143 hp); rfl) rfl (by omega) (by decide) ?_
    refine j_bne (pc := 17) (tgt := 23) dX7_back_17 rfl (fun zc17 => ?_) (fun zc17 => ?_)
    · refine j_aload_n (pc := 23) dX7_back_23 rfl ?_
      refine j_getf (pc := 24) dX7_back_24 fl_X7_26 (by apply lkE; (with_reducible first | exact lkM_129 hp | exact lkM_133 hp | exact lkM_144 hp | exact lkM_134 hp | exact lkM_130 hp | exact lkM_131 hp | exact lkM_132 hp | exact lkM_135 hp | exact lkM_136 hp | exact lkM_137 hp | exact lkM_138 hp | exact lkM_145 hp | exact lkM_146 hp | exact lkM_139 hp | exact lkM_140 hp | exact lkM_141 hp | exact lkM_142 hp | exact lkM_143 hp); rfl) rfl ?_
      refine j_iconst (pc := 27) dX7_back_27 kc_0 ?_
      refine j_aload_n (pc := 28) dX7_back_28 rfl ?_
      refine j_getf (pc := 29) dX7_back_29 fl_X7_32 (by apply lkE; (with_reducible first | exact lkM_129 hp | exact lkM_133 hp | exact lkM_144 hp | exact lkM_134 hp | exact lkM_130 hp | exact lkM_131 hp | exact lkM_132 hp | exact lkM_135 hp | exact lkM_136 hp | exact lkM_137 hp | exact lkM_138 hp | exact lkM_145 hp | exact lkM_146 hp | exact lkM_139 hp | exact lkM_140 hp | exact lkM_141 hp | exact lkM_142 hp | exact lkM_143 hp); rfl) rfl ?_
      refine j_bipush (pc := 32) dX7_back_32 kb_21 ?_
      refine j_iload_n (pc := 34) dX7_back_34 rfl ?_
      refine j_imul (pc := 35) dX7_back_35 ?_
      rw [mul21 (by omega)]
      refine j_s4n (pc := 36) dX7_back_36 mc_X7_copy ml_X7_160 sm_X7_copy (by omega) (CD.heap (upM_133 hp) (m_copy (p := 0) (q := 21 * j) (by decide) (by omega) (by omega) (by decide) (by decide) (lkM_133 hp) (lkM_135 hp))) (Nat.le_of_ble_eq_true rfl) ?_
      refine j_aload_n (pc := 39) dX7_back_39 rfl ?_
      refine j_iconst (pc := 40) dX7_back_40 kc_0 ?_
      refine j_putf (pc := 41) dX7_back_41 fl_X7_154 (jfit_i _) (by apply lkE; (with_reducible first | exact lkM_129 hp | exact lkM_133 hp | exact lkM_144 hp | exact lkM_134 hp | exact lkM_130 hp | exact lkM_131 hp | exact lkM_132 hp | exact lkM_135 hp | exact lkM_136 hp | exact lkM_137 hp | exact lkM_138 hp | exact lkM_145 hp | exact lkM_146 hp | exact lkM_139 hp | exact lkM_140 hp | exact lkM_141 hp | exact lkM_142 hp | exact lkM_143 hp); rfl) (upM_129 hp) ?_
      refine j_aload_n (pc := 44) dX7_back_44 rfl ?_
      refine j_getf (pc := 45) dX7_back_45 fl_X7_26 (by apply lkE; (with_reducible first | exact lkM_129 hp | exact lkM_133 hp | exact lkM_144 hp | exact lkM_134 hp | exact lkM_130 hp | exact lkM_131 hp | exact lkM_132 hp | exact lkM_135 hp | exact lkM_136 hp | exact lkM_137 hp | exact lkM_138 hp | exact lkM_145 hp | exact lkM_146 hp | exact lkM_139 hp | exact lkM_140 hp | exact lkM_141 hp | exact lkM_142 hp | exact lkM_143 hp); rfl) rfl ?_
      refine j_iconst (pc := 48) dX7_back_48 kc_0 ?_
      refine j_ialdE (pc := 49) dX7_back_49 (by apply lkE; (with_reducible first | exact lkM_129 hp | exact lkM_133 hp | exact lkM_144 hp | exact lkM_134 hp | exact lkM_130 hp | exact lkM_131 hp | exact lkM_132 hp | exact lkM_135 hp | exact lkM_136 hp | exact lkM_137 hp | exact lkM_138 hp | exact lkM_145 hp | exact lkM_146 hp | exact lkM_139 hp | exact lkM_140 hp | exact lkM_141 hp | exact lkM_142 hp | exact lkM_143 hp); rfl) rfl (rfl : (0 : Int32) = nI 0) (by decide) (by decide) ?_
      refine j_ireturn (pc := 50) dX7_back_50 rfl ?_
      exact h3 j hj2 rfl zc17
    · refine j_bipush (pc := 20) dX7_back_20 kb_m2 ?_
      refine j_ireturn (pc := 22) dX7_back_22 rfl ?_
      exact h2 j hj2 rfl zc17
  · refine j_iconst (pc := 9) dX7_back_9 kc_m1 ?_
    refine j_ireturn (pc := 10) dX7_back_10 rfl ?_
    exact h1 zc6

def mctI (de da be pi ru tm tn c : Int32) : Int32 := if c = 0 then de else if c = 1 then da else if c = 2 then be else if c = 3 then pi else if c = 4 then ru else if c = 5 then tm else if c = 6 then tn else -1
set_option maxRecDepth 20000 in
set_option maxHeartbeats 200000 in
theorem m_count (hp : pre.length = 129) {c : Int32} (h1 : Q (some (.int (mctI de da be pi ru tm tn c))) (W2 pre de we da bo be sg pi ru st wa kn im ik tm to tr tx tn cu sa tk nu wr it sd swt sdd sbx sfl sdi sb sst sp sr nw od bs)) : C g 7 0 0 mX7_count [.ref 129, .int c] (W2 pre de we da bo be sg pi ru st wa kn im ik tm to tr tx tn cu sa tk nu wr it sd swt sdd sbx sfl sdi sb sst sp sr nw od bs) Q := by
  refine C.of (by decide +kernel) (by simp [Value.category]) (Nat.le_of_ble_eq_true rfl) ?_
  change J g mX7_count 7 0 0 _ (W2 pre de we da bo be sg pi ru st wa kn im ik tm to tr tx tn cu sa tk nu wr it sd swt sdd sbx sfl sdi sb sst sp sr nw od bs) 0 [some (.ref 129), some (.int c)] []
  refine j_iload_n (pc := 0) dX7_count_0 rfl ?_
  by_cases zs1 : (c).toInt < 0 ∨ 6 < (c).toInt
  · refine j_tableOut (pc := 1) (tgt := 79) dX7_count_1 zs1 rfl ?_
    refine j_iconst (pc := 79) dX7_count_79 kc_m1 ?_
    refine j_ireturn (pc := 80) dX7_count_80 rfl ?_
    rw [mctI, if_neg (show ¬ c = 0 from fun e => by subst e; exact absurd zs1 (by decide)), if_neg (show ¬ c = 1 from fun e => by subst e; exact absurd zs1 (by decide)), if_neg (show ¬ c = 2 from fun e => by subst e; exact absurd zs1 (by decide)), if_neg (show ¬ c = 3 from fun e => by subst e; exact absurd zs1 (by decide)), if_neg (show ¬ c = 4 from fun e => by subst e; exact absurd zs1 (by decide)), if_neg (show ¬ c = 5 from fun e => by subst e; exact absurd zs1 (by decide)), if_neg (show ¬ c = 6 from fun e => by subst e; exact absurd zs1 (by decide))] at h1
    exact h1
  by_cases zs1_0 : c = 0
  · refine j_tableIn (pc := 1) (off := 43) (tgt := 44) dX7_count_1 (by rw [zs1_0]; decide) (by rw [zs1_0]; decide) (by rw [zs1_0]; decide) rfl ?_
    refine j_aload_n (pc := 44) dX7_count_44 rfl ?_
    refine j_getf (pc := 45) dX7_count_45 fl_X7_69 (by apply lkE; (with_reducible first | exact lkM_129 hp | exact lkM_133 hp | exact lkM_144 hp | exact lkM_134 hp | exact lkM_130 hp | exact lkM_131 hp | exact lkM_132 hp | exact lkM_135 hp | exact lkM_136 hp | exact lkM_137 hp | exact lkM_138 hp | exact lkM_145 hp | exact lkM_146 hp | exact lkM_139 hp | exact lkM_140 hp | exact lkM_141 hp | exact lkM_142 hp | exact lkM_143 hp); rfl) rfl ?_
    refine j_ireturn (pc := 48) dX7_count_48 rfl ?_
    subst zs1_0
    rw [mctI, if_pos rfl] at h1
    exact h1
  by_cases zs1_1 : c = 1
  · refine j_tableIn (pc := 1) (off := 48) (tgt := 49) dX7_count_1 (by rw [zs1_1]; decide) (by rw [zs1_1]; decide) (by rw [zs1_1]; decide) rfl ?_
    refine j_aload_n (pc := 49) dX7_count_49 rfl ?_
    refine j_getf (pc := 50) dX7_count_50 fl_X7_76 (by apply lkE; (with_reducible first | exact lkM_129 hp | exact lkM_133 hp | exact lkM_144 hp | exact lkM_134 hp | exact lkM_130 hp | exact lkM_131 hp | exact lkM_132 hp | exact lkM_135 hp | exact lkM_136 hp | exact lkM_137 hp | exact lkM_138 hp | exact lkM_145 hp | exact lkM_146 hp | exact lkM_139 hp | exact lkM_140 hp | exact lkM_141 hp | exact lkM_142 hp | exact lkM_143 hp); rfl) rfl ?_
    refine j_ireturn (pc := 53) dX7_count_53 rfl ?_
    subst zs1_1
    rw [mctI, if_neg (show ¬ (1 : Int32) = 0 by decide), if_pos rfl] at h1
    exact h1
  by_cases zs1_2 : c = 2
  · refine j_tableIn (pc := 1) (off := 53) (tgt := 54) dX7_count_1 (by rw [zs1_2]; decide) (by rw [zs1_2]; decide) (by rw [zs1_2]; decide) rfl ?_
    refine j_aload_n (pc := 54) dX7_count_54 rfl ?_
    refine j_getf (pc := 55) dX7_count_55 fl_X7_151 (by apply lkE; (with_reducible first | exact lkM_129 hp | exact lkM_133 hp | exact lkM_144 hp | exact lkM_134 hp | exact lkM_130 hp | exact lkM_131 hp | exact lkM_132 hp | exact lkM_135 hp | exact lkM_136 hp | exact lkM_137 hp | exact lkM_138 hp | exact lkM_145 hp | exact lkM_146 hp | exact lkM_139 hp | exact lkM_140 hp | exact lkM_141 hp | exact lkM_142 hp | exact lkM_143 hp); rfl) rfl ?_
    refine j_ireturn (pc := 58) dX7_count_58 rfl ?_
    subst zs1_2
    rw [mctI, if_neg (show ¬ (2 : Int32) = 0 by decide), if_neg (show ¬ (2 : Int32) = 1 by decide), if_pos rfl] at h1
    exact h1
  by_cases zs1_3 : c = 3
  · refine j_tableIn (pc := 1) (off := 58) (tgt := 59) dX7_count_1 (by rw [zs1_3]; decide) (by rw [zs1_3]; decide) (by rw [zs1_3]; decide) rfl ?_
    refine j_aload_n (pc := 59) dX7_count_59 rfl ?_
    refine j_getf (pc := 60) dX7_count_60 fl_X7_19 (by apply lkE; (with_reducible first | exact lkM_129 hp | exact lkM_133 hp | exact lkM_144 hp | exact lkM_134 hp | exact lkM_130 hp | exact lkM_131 hp | exact lkM_132 hp | exact lkM_135 hp | exact lkM_136 hp | exact lkM_137 hp | exact lkM_138 hp | exact lkM_145 hp | exact lkM_146 hp | exact lkM_139 hp | exact lkM_140 hp | exact lkM_141 hp | exact lkM_142 hp | exact lkM_143 hp); rfl) rfl ?_
    refine j_ireturn (pc := 63) dX7_count_63 rfl ?_
    subst zs1_3
    rw [mctI, if_neg (show ¬ (3 : Int32) = 0 by decide), if_neg (show ¬ (3 : Int32) = 1 by decide), if_neg (show ¬ (3 : Int32) = 2 by decide), if_pos rfl] at h1
    exact h1
  by_cases zs1_4 : c = 4
  · refine j_tableIn (pc := 1) (off := 63) (tgt := 64) dX7_count_1 (by rw [zs1_4]; decide) (by rw [zs1_4]; decide) (by rw [zs1_4]; decide) rfl ?_
    refine j_aload_n (pc := 64) dX7_count_64 rfl ?_
    refine j_getf (pc := 65) dX7_count_65 fl_X7_23 (by apply lkE; (with_reducible first | exact lkM_129 hp | exact lkM_133 hp | exact lkM_144 hp | exact lkM_134 hp | exact lkM_130 hp | exact lkM_131 hp | exact lkM_132 hp | exact lkM_135 hp | exact lkM_136 hp | exact lkM_137 hp | exact lkM_138 hp | exact lkM_145 hp | exact lkM_146 hp | exact lkM_139 hp | exact lkM_140 hp | exact lkM_141 hp | exact lkM_142 hp | exact lkM_143 hp); rfl) rfl ?_
    refine j_ireturn (pc := 68) dX7_count_68 rfl ?_
    subst zs1_4
    rw [mctI, if_neg (show ¬ (4 : Int32) = 0 by decide), if_neg (show ¬ (4 : Int32) = 1 by decide), if_neg (show ¬ (4 : Int32) = 2 by decide), if_neg (show ¬ (4 : Int32) = 3 by decide), if_pos rfl] at h1
    exact h1
  by_cases zs1_5 : c = 5
  · refine j_tableIn (pc := 1) (off := 68) (tgt := 69) dX7_count_1 (by rw [zs1_5]; decide) (by rw [zs1_5]; decide) (by rw [zs1_5]; decide) rfl ?_
    refine j_aload_n (pc := 69) dX7_count_69 rfl ?_
    refine j_getf (pc := 70) dX7_count_70 fl_X7_157 (by apply lkE; (with_reducible first | exact lkM_129 hp | exact lkM_133 hp | exact lkM_144 hp | exact lkM_134 hp | exact lkM_130 hp | exact lkM_131 hp | exact lkM_132 hp | exact lkM_135 hp | exact lkM_136 hp | exact lkM_137 hp | exact lkM_138 hp | exact lkM_145 hp | exact lkM_146 hp | exact lkM_139 hp | exact lkM_140 hp | exact lkM_141 hp | exact lkM_142 hp | exact lkM_143 hp); rfl) rfl ?_
    refine j_ireturn (pc := 73) dX7_count_73 rfl ?_
    subst zs1_5
    rw [mctI, if_neg (show ¬ (5 : Int32) = 0 by decide), if_neg (show ¬ (5 : Int32) = 1 by decide), if_neg (show ¬ (5 : Int32) = 2 by decide), if_neg (show ¬ (5 : Int32) = 3 by decide), if_neg (show ¬ (5 : Int32) = 4 by decide), if_pos rfl] at h1
    exact h1
  by_cases zs1_6 : c = 6
  · refine j_tableIn (pc := 1) (off := 73) (tgt := 74) dX7_count_1 (by rw [zs1_6]; decide) (by rw [zs1_6]; decide) (by rw [zs1_6]; decide) rfl ?_
    refine j_aload_n (pc := 74) dX7_count_74 rfl ?_
    refine j_getf (pc := 75) dX7_count_75 fl_X7_79 (by apply lkE; (with_reducible first | exact lkM_129 hp | exact lkM_133 hp | exact lkM_144 hp | exact lkM_134 hp | exact lkM_130 hp | exact lkM_131 hp | exact lkM_132 hp | exact lkM_135 hp | exact lkM_136 hp | exact lkM_137 hp | exact lkM_138 hp | exact lkM_145 hp | exact lkM_146 hp | exact lkM_139 hp | exact lkM_140 hp | exact lkM_141 hp | exact lkM_142 hp | exact lkM_143 hp); rfl) rfl ?_
    refine j_ireturn (pc := 78) dX7_count_78 rfl ?_
    subst zs1_6
    rw [mctI, if_neg (show ¬ (6 : Int32) = 0 by decide), if_neg (show ¬ (6 : Int32) = 1 by decide), if_neg (show ¬ (6 : Int32) = 2 by decide), if_neg (show ¬ (6 : Int32) = 3 by decide), if_neg (show ¬ (6 : Int32) = 4 by decide), if_neg (show ¬ (6 : Int32) = 5 by decide), if_pos rfl] at h1
    exact h1
  exfalso
  have zt1_0 : ¬ (c).toInt = 0 := fun e => zs1_0 (Int32.toInt_inj.mp (e.trans (by decide)))
  have zt1_1 : ¬ (c).toInt = 1 := fun e => zs1_1 (Int32.toInt_inj.mp (e.trans (by decide)))
  have zt1_2 : ¬ (c).toInt = 2 := fun e => zs1_2 (Int32.toInt_inj.mp (e.trans (by decide)))
  have zt1_3 : ¬ (c).toInt = 3 := fun e => zs1_3 (Int32.toInt_inj.mp (e.trans (by decide)))
  have zt1_4 : ¬ (c).toInt = 4 := fun e => zs1_4 (Int32.toInt_inj.mp (e.trans (by decide)))
  have zt1_5 : ¬ (c).toInt = 5 := fun e => zs1_5 (Int32.toInt_inj.mp (e.trans (by decide)))
  have zt1_6 : ¬ (c).toInt = 6 := fun e => zs1_6 (Int32.toInt_inj.mp (e.trans (by decide)))
  omega

set_option maxRecDepth 20000 in
set_option maxHeartbeats 200000 in
theorem m_trace (hp : pre.length = 129)  (h1 : Q (some (.long tr)) (W2 pre de we da bo be sg pi ru st wa kn im ik tm to tr tx tn cu sa tk nu wr it sd swt sdd sbx sfl sdi sb sst sp sr nw od bs)) : C g 7 0 0 mX7_trace [.ref 129] (W2 pre de we da bo be sg pi ru st wa kn im ik tm to tr tx tn cu sa tk nu wr it sd swt sdd sbx sfl sdi sb sst sp sr nw od bs) Q := by
  refine C.of (by decide +kernel) (by simp [Value.category]) (Nat.le_of_ble_eq_true rfl) ?_
  change J g mX7_trace 7 0 0 _ (W2 pre de we da bo be sg pi ru st wa kn im ik tm to tr tx tn cu sa tk nu wr it sd swt sdd sbx sfl sdi sb sst sp sr nw od bs) 0 [some (.ref 129)] []
  refine j_aload_n (pc := 0) dX7_trace_0 rfl ?_
  refine j_getf (pc := 1) dX7_trace_1 fl_X7_230 (by apply lkE; (with_reducible first | exact lkM_129 hp | exact lkM_133 hp | exact lkM_144 hp | exact lkM_134 hp | exact lkM_130 hp | exact lkM_131 hp | exact lkM_132 hp | exact lkM_135 hp | exact lkM_136 hp | exact lkM_137 hp | exact lkM_138 hp | exact lkM_145 hp | exact lkM_146 hp | exact lkM_139 hp | exact lkM_140 hp | exact lkM_141 hp | exact lkM_142 hp | exact lkM_143 hp); rfl) rfl ?_
  refine j_lreturn (pc := 4) dX7_trace_4 rfl ?_
  exact h1

def mdb (we st : Fn) (n j : Nat) : Int32 := we j + mbits (iter (mdStep st (nI j)) n 0 0)
def mrtI (we st : Fn) (n j : Nat) (kd : Int32) : Int32 := if kd = 0 then we j else if kd = 1 then mdb we st n j else if kd = 2 then we j - st 2 else if kd = 3 then 2 * mdb we st n j else if kd = 4 then we j - st 2 + nI j else we j + st 0
set_option maxRecDepth 20000 in
set_option maxHeartbeats 200000 in
theorem m_rate (hp : pre.length = 129) {kd i : Int32} {n : Nat} (hdd : da = nI n) (hn : n ≤ 6) {ne : Nat} (hde : de = nI ne) (hne : ne ≤ 6) (h1 : (jin kd 0 5 && jlt i de) = false → Q (some (.int (-1000000))) (W2 pre de we da bo be sg pi ru st wa kn im ik tm to tr tx tn cu sa tk nu wr it sd swt sdd sbx sfl sdi sb sst sp sr nw od bs)) (h2 : ∀ j : Nat, j < ne → i = nI j → jin kd 0 5 = true → Q (some (.int (mrtI we st n j kd))) (W2 pre de we da bo be sg pi ru st wa kn im ik tm to (tr + rtT kd) tx tn cu sa tk nu wr it sd swt sdd sbx sfl sdi sb sst sp sr nw od bs)) : C g 7 0 0 mX7_rate [.ref 129, .int kd, .int i] (W2 pre de we da bo be sg pi ru st wa kn im ik tm to tr tx tn cu sa tk nu wr it sd swt sdd sbx sfl sdi sb sst sp sr nw od bs) Q := by
  refine C.of (by decide +kernel) (by simp [Value.category]) (Nat.le_of_ble_eq_true rfl) ?_
  change J g mX7_rate 7 0 0 _ (W2 pre de we da bo be sg pi ru st wa kn im ik tm to tr tx tn cu sa tk nu wr it sd swt sdd sbx sfl sdi sb sst sp sr nw od bs) 0 [some (.ref 129), some (.int kd), some (.int i), none, none, none] []
  refine j_iload_n (pc := 0) dX7_rate_0 rfl ?_
  refine j_iconst (pc := 1) dX7_rate_1 kc_0 ?_
  refine j_iconst (pc := 2) dX7_rate_2 kc_5 ?_
  refine j_s3 (pc := 3) dX7_rate_3 mc_X7_in ml_X7_72 sm_X7_in (by omega) (c_in) (Nat.le_of_ble_eq_true rfl) ?_
  refine j_beq (pc := 6) (tgt := 17) dX7_rate_6 rfl (fun zc6 => ?_) (fun zc6 => ?_)
  · refine j_ldc (pc := 17) dX7_rate_17 ck_X7_185 ?_
    refine j_ireturn (pc := 19) dX7_rate_19 rfl ?_
    first
      | exact h1 (by rw [zc6, Bool.false_and])
      | exact h1 (by rw [zc14, Bool.and_false])
  · refine j_aload_n (pc := 9) dX7_rate_9 rfl ?_
    refine j_iload_n (pc := 10) dX7_rate_10 rfl ?_
    refine j_v1 (pc := 11) (ci := 7) dX7_rate_11 mc_X7_isDeed ml_X7_182 im_X7_isDeed se_X7_isDeed rfl rfl (by apply lkE; (with_reducible first | exact lkM_129 hp | exact lkM_133 hp | exact lkM_144 hp | exact lkM_134 hp | exact lkM_130 hp | exact lkM_131 hp | exact lkM_132 hp | exact lkM_135 hp | exact lkM_136 hp | exact lkM_137 hp | exact lkM_138 hp | exact lkM_145 hp | exact lkM_146 hp | exact lkM_139 hp | exact lkM_140 hp | exact lkM_141 hp | exact lkM_142 hp | exact lkM_143 hp); rfl) (by omega) (m_isDeed hp hde hne) (Nat.le_of_ble_eq_true rfl) ?_
    refine j_bne (pc := 14) (tgt := 20) dX7_rate_14 rfl (fun zc14 => ?_) (fun zc14 => ?_)
    · obtain ⟨j, hj, rfl⟩ := jlt_nat (n := ne) (by omega) (by rw [← hde]; exact zc14)
      have hj6 : j < 6 := by omega
      refine j_aload_n (pc := 20) dX7_rate_20 rfl ?_
      refine j_getf (pc := 21) dX7_rate_21 fl_X7_7 (by apply lkE; (with_reducible first | exact lkM_129 hp | exact lkM_133 hp | exact lkM_144 hp | exact lkM_134 hp | exact lkM_130 hp | exact lkM_131 hp | exact lkM_132 hp | exact lkM_135 hp | exact lkM_136 hp | exact lkM_137 hp | exact lkM_138 hp | exact lkM_145 hp | exact lkM_146 hp | exact lkM_139 hp | exact lkM_140 hp | exact lkM_141 hp | exact lkM_142 hp | exact lkM_143 hp); rfl) rfl ?_
      refine j_iload_n (pc := 24) dX7_rate_24 rfl ?_
      refine j_ialdE (pc := 25) dX7_rate_25 (by apply lkE; (with_reducible first | exact lkM_129 hp | exact lkM_133 hp | exact lkM_144 hp | exact lkM_134 hp | exact lkM_130 hp | exact lkM_131 hp | exact lkM_132 hp | exact lkM_135 hp | exact lkM_136 hp | exact lkM_137 hp | exact lkM_138 hp | exact lkM_145 hp | exact lkM_146 hp | exact lkM_139 hp | exact lkM_140 hp | exact lkM_141 hp | exact lkM_142 hp | exact lkM_143 hp); rfl) rfl rfl (by omega) (by decide) ?_
      refine j_istore_n (pc := 26) dX7_rate_26 rfl (Nat.le_of_ble_eq_true rfl) rfl ?_
      refine j_iload_n (pc := 27) dX7_rate_27 rfl ?_
      refine j_aload_n (pc := 28) dX7_rate_28 rfl ?_
      refine j_iload_n (pc := 29) dX7_rate_29 rfl ?_
      refine j_v1 (pc := 30) (ci := 7) dX7_rate_30 mc_X7_whoDid ml_X7_186 im_X7_whoDid se_X7_whoDid rfl rfl (by apply lkE; (with_reducible first | exact lkM_129 hp | exact lkM_133 hp | exact lkM_144 hp | exact lkM_134 hp | exact lkM_130 hp | exact lkM_131 hp | exact lkM_132 hp | exact lkM_135 hp | exact lkM_136 hp | exact lkM_137 hp | exact lkM_138 hp | exact lkM_145 hp | exact lkM_146 hp | exact lkM_139 hp | exact lkM_140 hp | exact lkM_141 hp | exact lkM_142 hp | exact lkM_143 hp); rfl) (by omega) (m_whoDid hp hdd hn) (Nat.le_of_ble_eq_true rfl) ?_
      refine j_s1 (pc := 33) dX7_rate_33 mc_X7_bits ml_X7_202 sm_X7_bits (by omega) (m_bits) (Nat.le_of_ble_eq_true rfl) ?_
      refine j_iadd (pc := 36) dX7_rate_36 ?_
      refine j_istore (pc := 37) dX7_rate_37 (Nat.le_of_ble_eq_true rfl) rfl ?_
      refine j_iload_n (pc := 39) dX7_rate_39 rfl ?_
      refine j_aload_n (pc := 40) dX7_rate_40 rfl ?_
      refine j_getf (pc := 41) dX7_rate_41 fl_X7_26 (by apply lkE; (with_reducible first | exact lkM_129 hp | exact lkM_133 hp | exact lkM_144 hp | exact lkM_134 hp | exact lkM_130 hp | exact lkM_131 hp | exact lkM_132 hp | exact lkM_135 hp | exact lkM_136 hp | exact lkM_137 hp | exact lkM_138 hp | exact lkM_145 hp | exact lkM_146 hp | exact lkM_139 hp | exact lkM_140 hp | exact lkM_141 hp | exact lkM_142 hp | exact lkM_143 hp); rfl) rfl ?_
      refine j_iconst (pc := 44) dX7_rate_44 kc_2 ?_
      refine j_ialdE (pc := 45) dX7_rate_45 (by apply lkE; (with_reducible first | exact lkM_129 hp | exact lkM_133 hp | exact lkM_144 hp | exact lkM_134 hp | exact lkM_130 hp | exact lkM_131 hp | exact lkM_132 hp | exact lkM_135 hp | exact lkM_136 hp | exact lkM_137 hp | exact lkM_138 hp | exact lkM_145 hp | exact lkM_146 hp | exact lkM_139 hp | exact lkM_140 hp | exact lkM_141 hp | exact lkM_142 hp | exact lkM_143 hp); rfl) rfl (rfl : (2 : Int32) = nI 2) (by decide) (by decide) ?_
      refine j_isub (pc := 46) dX7_rate_46 ?_
      refine j_istore (pc := 47) dX7_rate_47 (Nat.le_of_ble_eq_true rfl) rfl ?_
      refine j_iload_n (pc := 49) dX7_rate_49 rfl ?_
      by_cases zs50 : (kd).toInt < 1 ∨ 5 < (kd).toInt
      · refine j_tableOut (pc := 50) (tgt := 169) dX7_rate_50 zs50 rfl ?_
        refine j_aload_n (pc := 169) dX7_rate_169 rfl ?_
        refine j_dup (pc := 170) dX7_rate_170 rfl ?_
        refine j_getf (pc := 171) dX7_rate_171 fl_X7_230 (by apply lkE; (with_reducible first | exact lkM_129 hp | exact lkM_133 hp | exact lkM_144 hp | exact lkM_134 hp | exact lkM_130 hp | exact lkM_131 hp | exact lkM_132 hp | exact lkM_135 hp | exact lkM_136 hp | exact lkM_137 hp | exact lkM_138 hp | exact lkM_145 hp | exact lkM_146 hp | exact lkM_139 hp | exact lkM_140 hp | exact lkM_141 hp | exact lkM_142 hp | exact lkM_143 hp); rfl) rfl ?_
        refine j_lconst (pc := 174) (v := 1) dX7_rate_174 rfl ?_
        refine j_ladd (pc := 175) dX7_rate_175 ?_
        refine j_putf (pc := 176) dX7_rate_176 fl_X7_230 (jfit_l _) (by apply lkE; (with_reducible first | exact lkM_129 hp | exact lkM_133 hp | exact lkM_144 hp | exact lkM_134 hp | exact lkM_130 hp | exact lkM_131 hp | exact lkM_132 hp | exact lkM_135 hp | exact lkM_136 hp | exact lkM_137 hp | exact lkM_138 hp | exact lkM_145 hp | exact lkM_146 hp | exact lkM_139 hp | exact lkM_140 hp | exact lkM_141 hp | exact lkM_142 hp | exact lkM_143 hp); rfl) (upM_129 hp) ?_
        refine j_iload_n (pc := 179) dX7_rate_179 rfl ?_
        refine j_ireturn (pc := 180) dX7_rate_180 rfl ?_
        have e0 := jin0 zc6 zs50
        subst e0
        exact h2 j hj rfl zc6
      by_cases zs50_0 : kd = 1
      · refine j_tableIn (pc := 50) (off := 34) (tgt := 84) dX7_rate_50 (by rw [zs50_0]; decide) (by rw [zs50_0]; decide) (by rw [zs50_0]; decide) rfl ?_
        refine j_aload_n (pc := 84) dX7_rate_84 rfl ?_
        refine j_dup (pc := 85) dX7_rate_85 rfl ?_
        refine j_getf (pc := 86) dX7_rate_86 fl_X7_230 (by apply lkE; (with_reducible first | exact lkM_129 hp | exact lkM_133 hp | exact lkM_144 hp | exact lkM_134 hp | exact lkM_130 hp | exact lkM_131 hp | exact lkM_132 hp | exact lkM_135 hp | exact lkM_136 hp | exact lkM_137 hp | exact lkM_138 hp | exact lkM_145 hp | exact lkM_146 hp | exact lkM_139 hp | exact lkM_140 hp | exact lkM_141 hp | exact lkM_142 hp | exact lkM_143 hp); rfl) rfl ?_
        refine j_ldc2 (pc := 89) dX7_rate_89 ck_X7_234 ?_
        refine j_ladd (pc := 92) dX7_rate_92 ?_
        refine j_putf (pc := 93) dX7_rate_93 fl_X7_230 (jfit_l _) (by apply lkE; (with_reducible first | exact lkM_129 hp | exact lkM_133 hp | exact lkM_144 hp | exact lkM_134 hp | exact lkM_130 hp | exact lkM_131 hp | exact lkM_132 hp | exact lkM_135 hp | exact lkM_136 hp | exact lkM_137 hp | exact lkM_138 hp | exact lkM_145 hp | exact lkM_146 hp | exact lkM_139 hp | exact lkM_140 hp | exact lkM_141 hp | exact lkM_142 hp | exact lkM_143 hp); rfl) (upM_129 hp) ?_
        refine j_iload (pc := 96) dX7_rate_96 rfl ?_
        refine j_ireturn (pc := 98) dX7_rate_98 rfl ?_
        subst zs50_0
        exact h2 j hj rfl zc6
      by_cases zs50_1 : kd = 2
      · refine j_tableIn (pc := 50) (off := 49) (tgt := 99) dX7_rate_50 (by rw [zs50_1]; decide) (by rw [zs50_1]; decide) (by rw [zs50_1]; decide) rfl ?_
        refine j_aload_n (pc := 99) dX7_rate_99 rfl ?_
        refine j_dup (pc := 100) dX7_rate_100 rfl ?_
        refine j_getf (pc := 101) dX7_rate_101 fl_X7_230 (by apply lkE; (with_reducible first | exact lkM_129 hp | exact lkM_133 hp | exact lkM_144 hp | exact lkM_134 hp | exact lkM_130 hp | exact lkM_131 hp | exact lkM_132 hp | exact lkM_135 hp | exact lkM_136 hp | exact lkM_137 hp | exact lkM_138 hp | exact lkM_145 hp | exact lkM_146 hp | exact lkM_139 hp | exact lkM_140 hp | exact lkM_141 hp | exact lkM_142 hp | exact lkM_143 hp); rfl) rfl ?_
        refine j_ldc2 (pc := 104) dX7_rate_104 ck_X7_236 ?_
        refine j_ladd (pc := 107) dX7_rate_107 ?_
        refine j_putf (pc := 108) dX7_rate_108 fl_X7_230 (jfit_l _) (by apply lkE; (with_reducible first | exact lkM_129 hp | exact lkM_133 hp | exact lkM_144 hp | exact lkM_134 hp | exact lkM_130 hp | exact lkM_131 hp | exact lkM_132 hp | exact lkM_135 hp | exact lkM_136 hp | exact lkM_137 hp | exact lkM_138 hp | exact lkM_145 hp | exact lkM_146 hp | exact lkM_139 hp | exact lkM_140 hp | exact lkM_141 hp | exact lkM_142 hp | exact lkM_143 hp); rfl) (upM_129 hp) ?_
        refine j_iload (pc := 111) dX7_rate_111 rfl ?_
        refine j_ireturn (pc := 113) dX7_rate_113 rfl ?_
        subst zs50_1
        exact h2 j hj rfl zc6
      by_cases zs50_2 : kd = 3
      · refine j_tableIn (pc := 50) (off := 64) (tgt := 114) dX7_rate_50 (by rw [zs50_2]; decide) (by rw [zs50_2]; decide) (by rw [zs50_2]; decide) rfl ?_
        refine j_aload_n (pc := 114) dX7_rate_114 rfl ?_
        refine j_dup (pc := 115) dX7_rate_115 rfl ?_
        refine j_getf (pc := 116) dX7_rate_116 fl_X7_230 (by apply lkE; (with_reducible first | exact lkM_129 hp | exact lkM_133 hp | exact lkM_144 hp | exact lkM_134 hp | exact lkM_130 hp | exact lkM_131 hp | exact lkM_132 hp | exact lkM_135 hp | exact lkM_136 hp | exact lkM_137 hp | exact lkM_138 hp | exact lkM_145 hp | exact lkM_146 hp | exact lkM_139 hp | exact lkM_140 hp | exact lkM_141 hp | exact lkM_142 hp | exact lkM_143 hp); rfl) rfl ?_
        refine j_ldc2 (pc := 119) dX7_rate_119 ck_X7_238 ?_
        refine j_ladd (pc := 122) dX7_rate_122 ?_
        refine j_putf (pc := 123) dX7_rate_123 fl_X7_230 (jfit_l _) (by apply lkE; (with_reducible first | exact lkM_129 hp | exact lkM_133 hp | exact lkM_144 hp | exact lkM_134 hp | exact lkM_130 hp | exact lkM_131 hp | exact lkM_132 hp | exact lkM_135 hp | exact lkM_136 hp | exact lkM_137 hp | exact lkM_138 hp | exact lkM_145 hp | exact lkM_146 hp | exact lkM_139 hp | exact lkM_140 hp | exact lkM_141 hp | exact lkM_142 hp | exact lkM_143 hp); rfl) (upM_129 hp) ?_
        refine j_iconst (pc := 126) dX7_rate_126 kc_2 ?_
        refine j_iload (pc := 127) dX7_rate_127 rfl ?_
        refine j_imul (pc := 129) dX7_rate_129 ?_
        refine j_ireturn (pc := 130) dX7_rate_130 rfl ?_
        subst zs50_2
        exact h2 j hj rfl zc6
      by_cases zs50_3 : kd = 4
      · refine j_tableIn (pc := 50) (off := 81) (tgt := 131) dX7_rate_50 (by rw [zs50_3]; decide) (by rw [zs50_3]; decide) (by rw [zs50_3]; decide) rfl ?_
        refine j_aload_n (pc := 131) dX7_rate_131 rfl ?_
        refine j_dup (pc := 132) dX7_rate_132 rfl ?_
        refine j_getf (pc := 133) dX7_rate_133 fl_X7_230 (by apply lkE; (with_reducible first | exact lkM_129 hp | exact lkM_133 hp | exact lkM_144 hp | exact lkM_134 hp | exact lkM_130 hp | exact lkM_131 hp | exact lkM_132 hp | exact lkM_135 hp | exact lkM_136 hp | exact lkM_137 hp | exact lkM_138 hp | exact lkM_145 hp | exact lkM_146 hp | exact lkM_139 hp | exact lkM_140 hp | exact lkM_141 hp | exact lkM_142 hp | exact lkM_143 hp); rfl) rfl ?_
        refine j_ldc2 (pc := 136) dX7_rate_136 ck_X7_240 ?_
        refine j_ladd (pc := 139) dX7_rate_139 ?_
        refine j_putf (pc := 140) dX7_rate_140 fl_X7_230 (jfit_l _) (by apply lkE; (with_reducible first | exact lkM_129 hp | exact lkM_133 hp | exact lkM_144 hp | exact lkM_134 hp | exact lkM_130 hp | exact lkM_131 hp | exact lkM_132 hp | exact lkM_135 hp | exact lkM_136 hp | exact lkM_137 hp | exact lkM_138 hp | exact lkM_145 hp | exact lkM_146 hp | exact lkM_139 hp | exact lkM_140 hp | exact lkM_141 hp | exact lkM_142 hp | exact lkM_143 hp); rfl) (upM_129 hp) ?_
        refine j_iload (pc := 143) dX7_rate_143 rfl ?_
        refine j_iload_n (pc := 145) dX7_rate_145 rfl ?_
        refine j_iadd (pc := 146) dX7_rate_146 ?_
        refine j_ireturn (pc := 147) dX7_rate_147 rfl ?_
        subst zs50_3
        exact h2 j hj rfl zc6
      by_cases zs50_4 : kd = 5
      · refine j_tableIn (pc := 50) (off := 98) (tgt := 148) dX7_rate_50 (by rw [zs50_4]; decide) (by rw [zs50_4]; decide) (by rw [zs50_4]; decide) rfl ?_
        refine j_aload_n (pc := 148) dX7_rate_148 rfl ?_
        refine j_dup (pc := 149) dX7_rate_149 rfl ?_
        refine j_getf (pc := 150) dX7_rate_150 fl_X7_230 (by apply lkE; (with_reducible first | exact lkM_129 hp | exact lkM_133 hp | exact lkM_144 hp | exact lkM_134 hp | exact lkM_130 hp | exact lkM_131 hp | exact lkM_132 hp | exact lkM_135 hp | exact lkM_136 hp | exact lkM_137 hp | exact lkM_138 hp | exact lkM_145 hp | exact lkM_146 hp | exact lkM_139 hp | exact lkM_140 hp | exact lkM_141 hp | exact lkM_142 hp | exact lkM_143 hp); rfl) rfl ?_
        refine j_ldc2 (pc := 153) dX7_rate_153 ck_X7_242 ?_
        refine j_ladd (pc := 156) dX7_rate_156 ?_
        refine j_putf (pc := 157) dX7_rate_157 fl_X7_230 (jfit_l _) (by apply lkE; (with_reducible first | exact lkM_129 hp | exact lkM_133 hp | exact lkM_144 hp | exact lkM_134 hp | exact lkM_130 hp | exact lkM_131 hp | exact lkM_132 hp | exact lkM_135 hp | exact lkM_136 hp | exact lkM_137 hp | exact lkM_138 hp | exact lkM_145 hp | exact lkM_146 hp | exact lkM_139 hp | exact lkM_140 hp | exact lkM_141 hp | exact lkM_142 hp | exact lkM_143 hp); rfl) (upM_129 hp) ?_
        refine j_iload_n (pc := 160) dX7_rate_160 rfl ?_
        refine j_aload_n (pc := 161) dX7_rate_161 rfl ?_
        refine j_getf (pc := 162) dX7_rate_162 fl_X7_26 (by apply lkE; (with_reducible first | exact lkM_129 hp | exact lkM_133 hp | exact lkM_144 hp | exact lkM_134 hp | exact lkM_130 hp | exact lkM_131 hp | exact lkM_132 hp | exact lkM_135 hp | exact lkM_136 hp | exact lkM_137 hp | exact lkM_138 hp | exact lkM_145 hp | exact lkM_146 hp | exact lkM_139 hp | exact lkM_140 hp | exact lkM_141 hp | exact lkM_142 hp | exact lkM_143 hp); rfl) rfl ?_
        refine j_iconst (pc := 165) dX7_rate_165 kc_0 ?_
        refine j_ialdE (pc := 166) dX7_rate_166 (by apply lkE; (with_reducible first | exact lkM_129 hp | exact lkM_133 hp | exact lkM_144 hp | exact lkM_134 hp | exact lkM_130 hp | exact lkM_131 hp | exact lkM_132 hp | exact lkM_135 hp | exact lkM_136 hp | exact lkM_137 hp | exact lkM_138 hp | exact lkM_145 hp | exact lkM_146 hp | exact lkM_139 hp | exact lkM_140 hp | exact lkM_141 hp | exact lkM_142 hp | exact lkM_143 hp); rfl) rfl (rfl : (0 : Int32) = nI 0) (by decide) (by decide) ?_
        refine j_iadd (pc := 167) dX7_rate_167 ?_
        refine j_ireturn (pc := 168) dX7_rate_168 rfl ?_
        subst zs50_4
        exact h2 j hj rfl zc6
      exfalso
      have zt50_0 : ¬ (kd).toInt = 1 := fun e => zs50_0 (Int32.toInt_inj.mp (e.trans (by decide)))
      have zt50_1 : ¬ (kd).toInt = 2 := fun e => zs50_1 (Int32.toInt_inj.mp (e.trans (by decide)))
      have zt50_2 : ¬ (kd).toInt = 3 := fun e => zs50_2 (Int32.toInt_inj.mp (e.trans (by decide)))
      have zt50_3 : ¬ (kd).toInt = 4 := fun e => zs50_3 (Int32.toInt_inj.mp (e.trans (by decide)))
      have zt50_4 : ¬ (kd).toInt = 5 := fun e => zs50_4 (Int32.toInt_inj.mp (e.trans (by decide)))
      omega
    · refine j_ldc (pc := 17) dX7_rate_17 ck_X7_185 ?_
      refine j_ireturn (pc := 19) dX7_rate_19 rfl ?_
      first
        | exact h1 (by rw [zc6, Bool.false_and])
        | exact h1 (by rw [zc14, Bool.and_false])

end

/-! the reference: bearers and odds -/
section
variable {g : GG} {h : List AC} {Q : Option Value → List AC → Prop} {pre : List AC} {de : Int32} {we : Fn} {da : Int32} {bo : Fn} {be : Int32} {sg : Fn} {pi : Int32} {ru : Int32} {st : Fn} {wa : Fn} {kn : Int32} {im : Fn} {ik : Nat → Bool} {tm : Int32} {to : Fn} {tr : Int64} {tx : Fn} {tn : Int32} {cu : Int32} {sa : Int32} {tk : Int32} {nu : Int32} {wr : Bool} {it : Int32} {sd : Int32} {swt : Fn} {sdd : Int32} {sbx : Fn} {sfl : Fn} {sdi : Fn} {sb : Int32} {sst : Fn} {sp : Int32} {sr : Int32} {nw : Fn} {od : Fn} {bs : Fn}
def mcyP (sg : Fn) (nb : Nat) (set : Int32) (j : Nat) : Int32 := msz (mwI sg nb set - 2 * mwI sg nb (nI j))
def mcyB (sg : Fn) (nb : Nat) (set : Int32) (j : Nat) (a : Int32 × Int32 × Int32) : Int32 × Int32 × Int32 :=
  if a.1 < 0 then (set, nI j, mcyP sg nb set j) else if mcyP sg nb set j < a.2.2 then (set, nI j, mcyP sg nb set j) else if mcyP sg nb set j = a.2.2 then (if mwI sg nb a.1 ≤ mwI sg nb set then a else (set, nI j, mcyP sg nb set j)) else a
def mcyStep (sg : Fn) (nb : Nat) (w set : Int32) (j : Nat) (a : Int32 × Int32 × Int32) : Int32 × Int32 × Int32 :=
  if nI j &&& (set ^^^ -1) = 0 then (if mbits (nI j) = 2 then (if mwI sg nb set < w then a else mcyB sg nb set j a) else a) else a
def mcoStep (sg : Fn) (nb : Nat) (w : Int32) (k : Nat) (a : Int32 × Int32 × Int32) : Int32 × Int32 × Int32 :=
  if mbits (nI k) = 4 then iter (mcyStep sg nb w (nI k)) k 0 a else a
def mcF (sg : Fn) (nb : Nat) (w : Int32) : Int32 × Int32 × Int32 := iter (mcoStep sg nb w) (2 ^ nb) 0 (-9, -9, 0)
def mcyI (sg : Fn) (nb : Nat) (w c : Int32) : Int32 := if (mcF sg nb w).1 < 0 then (mcF sg nb w).1 else if c = 0 then (mcF sg nb w).1 else if c = 1 then (mcF sg nb w).2.1 else (mcF sg nb w).2.2
def gcL : Nat → Int32 → Int32 → Int32
  | 0, y, _ => y
  | m + 1, y, z => if z ≤ 0 then y else gcL m z (y - y / z * z)
def itStep (x s : Int32) (k : Nat) (a : Int32) : Int32 := a * (if mhas s (nI k) then x else 10 - x)
def itI (x : Int32) (nb : Nat) (s : Int32) : Int32 := iter (itStep x s) nb 0 1
def abStep (x kk : Int32) (nb : Nat) (k : Nat) (a : Int32) : Int32 := a + (if kk < mbits (nI k) then 0 else itI x nb (nI k))
def abI (x kk : Int32) (nb : Nat) : Int32 := iter (abStep x kk nb) (2 ^ nb) 0 0
def beI (nb : Nat) : Int32 := powI 10 nb 0 1
theorem beI_pos {nb : Nat} (h : nb ≤ 6) : 0 < beI nb ∧ beI nb ≤ 1000000 := by
  have : ∀ n, n < 7 → 0 < beI n ∧ beI n ≤ 1000000 := by decide +kernel
  exact this nb (by omega)
theorem i32_pos {z : Int32} (h : ¬ z ≤ 0) : 0 < z.toInt := by
  have : ¬ z.toInt ≤ 0 := fun e => h (Int32.le_iff_toInt_le.mpr e)
  omega
theorem irem_toInt {y z : Int32} (h : 0 < z.toInt) : (y - y / z * z).toInt = y.toInt.tmod z.toInt := by
  rw [Int32.toInt_sub, Int32.toInt_mul, Int32.toInt_div, Int.bmod_mul_bmod, Int.sub_bmod_bmod, Int.mul_comm, ← Int.tmod_def]
  have h1 := Int.tmod_lt_of_pos y.toInt h
  have h2 := Int.lt_tmod_of_pos y.toInt h
  have h3 := Int32.toInt_lt z
  exact Int.bmod_eq_of_le (by omega) (by omega)
theorem rem_lt {y z : Int32} (h : 0 < z.toInt) : (y - y / z * z).toInt < z.toInt := by
  rw [irem_toInt h]
  exact Int.tmod_lt_of_pos _ h
theorem gcL_ne : ∀ (m : Nat) (y z : Int32), (0 < z.toInt ∧ 0 < m) ∨ ¬ y = 0 → ¬ gcL m y z = 0
  | 0, y, z, h => by
    rcases h with h | h
    · omega
    · exact h
  | m + 1, y, z, h => by
    unfold gcL
    split
    · rename_i hz
      rcases h with h | h
      · have := Int32.le_iff_toInt_le.mp hz
        have h0 : (0 : Int32).toInt = 0 := rfl
        omega
      · exact h
    · rename_i hz
      exact gcL_ne m _ _ (Or.inr (fun e => hz (by rw [e]; decide)))
set_option maxRecDepth 20000 in
set_option maxHeartbeats 200000 in
theorem ml_strength (hp : pre.length = 129) {s : Int32} {nb : Nat} (hbe : be = nI nb) (hnb : nb ≤ 6) : ∀ (m k : Nat) (a : Int32), k + m = nb → Q (some (.int (iter (mwStep sg s) m k a))) (W2 pre de we da bo be sg pi ru st wa kn im ik tm to tr tx tn cu sa tk nu wr it sd swt sdd sbx sfl sdi sb sst sp sr nw od bs) → J g mX7_strengthOf 1 0 0 Q (W2 pre de we da bo be sg pi ru st wa kn im ik tm to tr tx tn cu sa tk nu wr it sd swt sdd sbx sfl sdi sb sst sp sr nw od bs) 4 [some (.ref 129), some (.int s), some (.int a), some (.int (nI k))] [] := by
  intro m
  induction m with
  | zero =>
    intro k a hk hq
    refine j_iload_n (pc := 4) dX7_strengthOf_4 rfl ?_
    refine j_aload_n (pc := 5) dX7_strengthOf_5 rfl ?_
    refine j_getf (pc := 6) dX7_strengthOf_6 fl_X7_151 (by apply lkE; (with_reducible first | exact lkM_129 hp | exact lkM_133 hp | exact lkM_144 hp | exact lkM_134 hp | exact lkM_130 hp | exact lkM_131 hp | exact lkM_132 hp | exact lkM_135 hp | exact lkM_136 hp | exact lkM_137 hp | exact lkM_138 hp | exact lkM_145 hp | exact lkM_146 hp | exact lkM_139 hp | exact lkM_140 hp | exact lkM_141 hp | exact lkM_142 hp | exact lkM_143 hp); rfl) rfl ?_
    refine j_icmp_ge (pc := 9) (tgt := 39) dX7_strengthOf_9 rfl (fun _ => ?_) (fun zc9 => absurd (by rw [hbe]; exact nI_le (by omega) (by omega)) zc9)
    refine j_iload_n (pc := 39) dX7_strengthOf_39 rfl ?_
    refine j_ireturn (pc := 40) dX7_strengthOf_40 rfl ?_
    exact hq
  | succ m ih =>
    intro k a hk hq
    refine j_iload_n (pc := 4) dX7_strengthOf_4 rfl ?_
    refine j_aload_n (pc := 5) dX7_strengthOf_5 rfl ?_
    refine j_getf (pc := 6) dX7_strengthOf_6 fl_X7_151 (by apply lkE; (with_reducible first | exact lkM_129 hp | exact lkM_133 hp | exact lkM_144 hp | exact lkM_134 hp | exact lkM_130 hp | exact lkM_131 hp | exact lkM_132 hp | exact lkM_135 hp | exact lkM_136 hp | exact lkM_137 hp | exact lkM_138 hp | exact lkM_145 hp | exact lkM_146 hp | exact lkM_139 hp | exact lkM_140 hp | exact lkM_141 hp | exact lkM_142 hp | exact lkM_143 hp); rfl) rfl ?_
    refine j_icmp_ge (pc := 9) (tgt := 39) dX7_strengthOf_9 rfl (fun zc9 => absurd zc9 (by rw [hbe]; exact nI_ge (by omega) (by omega))) (fun _ => ?_)
    refine j_iload_n (pc := 12) dX7_strengthOf_12 rfl ?_
    refine j_iload_n (pc := 13) dX7_strengthOf_13 rfl ?_
    refine j_iload_n (pc := 14) dX7_strengthOf_14 rfl ?_
    refine j_s2 (pc := 15) dX7_strengthOf_15 mc_X7_has ml_X7_119 sm_X7_has (by omega) (m_has) (Nat.le_of_ble_eq_true rfl) ?_
    refine j_beq (pc := 18) (tgt := 30) dX7_strengthOf_18 rfl (fun zc18 => ?_) (fun zc18 => ?_)
    · refine j_iconst (pc := 30) dX7_strengthOf_30 kc_0 ?_
      refine j_iadd (pc := 31) dX7_strengthOf_31 ?_
      refine j_istore_n (pc := 32) dX7_strengthOf_32 rfl (Nat.le_of_ble_eq_true rfl) rfl ?_
      refine j_iinc (pc := 33) dX7_strengthOf_33 rfl rfl (Nat.le_of_ble_eq_true rfl) rfl ?_
      refine j_goto (pc := 36) (tgt := 4) dX7_strengthOf_36 rfl ?_
      rw [nI_s]
      refine ih (k + 1) _ (by omega) ?_
      first
        | simpa [iter, mwStep, *] using hq
        | (simp only [iter, mwStep, *, ↓reduceIte, not_false_eq_true, Bool.false_eq_true] at hq; exact hq)
    · refine j_aload_n (pc := 21) dX7_strengthOf_21 rfl ?_
      refine j_getf (pc := 22) dX7_strengthOf_22 fl_X7_16 (by apply lkE; (with_reducible first | exact lkM_129 hp | exact lkM_133 hp | exact lkM_144 hp | exact lkM_134 hp | exact lkM_130 hp | exact lkM_131 hp | exact lkM_132 hp | exact lkM_135 hp | exact lkM_136 hp | exact lkM_137 hp | exact lkM_138 hp | exact lkM_145 hp | exact lkM_146 hp | exact lkM_139 hp | exact lkM_140 hp | exact lkM_141 hp | exact lkM_142 hp | exact lkM_143 hp); rfl) rfl ?_
      refine j_iload_n (pc := 25) dX7_strengthOf_25 rfl ?_
      refine j_ialdE (pc := 26) dX7_strengthOf_26 (by apply lkE; (with_reducible first | exact lkM_129 hp | exact lkM_133 hp | exact lkM_144 hp | exact lkM_134 hp | exact lkM_130 hp | exact lkM_131 hp | exact lkM_132 hp | exact lkM_135 hp | exact lkM_136 hp | exact lkM_137 hp | exact lkM_138 hp | exact lkM_145 hp | exact lkM_146 hp | exact lkM_139 hp | exact lkM_140 hp | exact lkM_141 hp | exact lkM_142 hp | exact lkM_143 hp); rfl) rfl rfl (by omega) (by decide) ?_
      refine j_goto (pc := 27) (tgt := 31) dX7_strengthOf_27 rfl ?_
      refine j_iadd (pc := 31) dX7_strengthOf_31 ?_
      refine j_istore_n (pc := 32) dX7_strengthOf_32 rfl (Nat.le_of_ble_eq_true rfl) rfl ?_
      refine j_iinc (pc := 33) dX7_strengthOf_33 rfl rfl (Nat.le_of_ble_eq_true rfl) rfl ?_
      refine j_goto (pc := 36) (tgt := 4) dX7_strengthOf_36 rfl ?_
      rw [nI_s]
      refine ih (k + 1) _ (by omega) ?_
      first
        | simpa [iter, mwStep, *] using hq
        | (simp only [iter, mwStep, *, ↓reduceIte, not_false_eq_true, Bool.false_eq_true] at hq; exact hq)

set_option maxRecDepth 20000 in
set_option maxHeartbeats 200000 in
theorem m_strengthOf (hp : pre.length = 129) {s : Int32} {nb : Nat} (hbe : be = nI nb) (hnb : nb ≤ 6) : CD g 1 mX7_strengthOf [.ref 129, .int s] (W2 pre de we da bo be sg pi ru st wa kn im ik tm to tr tx tn cu sa tk nu wr it sd swt sdd sbx sfl sdi sb sst sp sr nw od bs) (some (.int (mwI sg nb s))) (W2 pre de we da bo be sg pi ru st wa kn im ik tm to tr tx tn cu sa tk nu wr it sd swt sdd sbx sfl sdi sb sst sp sr nw od bs) := by
  refine C.of (by decide +kernel) (by simp [Value.category]) (Nat.le_of_ble_eq_true rfl) ?_
  change J g mX7_strengthOf 1 0 0 _ (W2 pre de we da bo be sg pi ru st wa kn im ik tm to tr tx tn cu sa tk nu wr it sd swt sdd sbx sfl sdi sb sst sp sr nw od bs) 0 [some (.ref 129), some (.int s), none, none] []
  refine j_iconst (pc := 0) dX7_strengthOf_0 kc_0 ?_
  refine j_istore_n (pc := 1) dX7_strengthOf_1 rfl (Nat.le_of_ble_eq_true rfl) rfl ?_
  refine j_iconst (pc := 2) dX7_strengthOf_2 kc_0 ?_
  refine j_istore_n (pc := 3) dX7_strengthOf_3 rfl (Nat.le_of_ble_eq_true rfl) rfl ?_
  exact ml_strength hp hbe hnb nb 0 0 (by omega) ⟨rfl, rfl⟩

set_option maxRecDepth 20000 in
set_option maxHeartbeats 200000 in
theorem ml_carryIn (hp : pre.length = 129) {w c : Int32} {k : Nat} (hk64 : k < 64) (h4 : mbits (nI k) = 4) {nb : Nat} (hbe : be = nI nb) (hnb : nb ≤ 6) : ∀ (m j : Nat) (a b b2 : Int32), j + m = k → J g mX7_carry 7 0 0 Q (W2 pre de we da bo be sg pi ru st wa kn im ik tm to tr tx tn cu sa tk nu wr it sd swt sdd sbx sfl sdi sb sst sp sr nw od bs) 171 [some (.ref 129), some (.int w), some (.int c), some (.int (iter (mcyStep sg nb w (nI k)) m j (a, b, b2)).1), some (.int (iter (mcyStep sg nb w (nI k)) m j (a, b, b2)).2.1), some (.int (iter (mcyStep sg nb w (nI k)) m j (a, b, b2)).2.2), some (.int (nI k)), some (.int (nI k)), none, none, none] [] → J g mX7_carry 7 0 0 Q (W2 pre de we da bo be sg pi ru st wa kn im ik tm to tr tx tn cu sa tk nu wr it sd swt sdd sbx sfl sdi sb sst sp sr nw od bs) 49 [some (.ref 129), some (.int w), some (.int c), some (.int a), some (.int b), some (.int b2), some (.int (nI k)), some (.int (nI j)), none, none, none] [] := by
  intro m
  induction m with
  | zero =>
    intro j a b b2 hk hq
    refine j_iload (pc := 49) dX7_carry_49 rfl ?_
    refine j_iload (pc := 51) dX7_carry_51 rfl ?_
    refine j_icmp_ge (pc := 53) (tgt := 171) dX7_carry_53 rfl (fun _ => ?_) (fun zc53 => absurd (nI_le (a := k) (b := j) (by omega) (by omega)) zc53)
    rw [show j = k by omega]
    exact hq
  | succ m ih =>
    intro j a b b2 hk hq
    refine j_iload (pc := 49) dX7_carry_49 rfl ?_
    refine j_iload (pc := 51) dX7_carry_51 rfl ?_
    refine j_icmp_ge (pc := 53) (tgt := 171) dX7_carry_53 rfl (fun zc53 => absurd zc53 (nI_ge (a := j) (b := k) (by omega) (by omega))) (fun _ => ?_)
    refine j_iload (pc := 56) dX7_carry_56 rfl ?_
    refine j_s1 (pc := 58) dX7_carry_58 mc_X7_bits ml_X7_202 sm_X7_bits (by omega) (m_bits) (Nat.le_of_ble_eq_true rfl) ?_
    refine j_iconst (pc := 61) dX7_carry_61 kc_4 ?_
    refine j_icmp_ne (pc := 62) (tgt := 171) dX7_carry_62 rfl (fun zc62 => absurd h4 zc62) (fun _ => ?_)
    refine j_aload_n (pc := 65) dX7_carry_65 rfl ?_
    refine j_iload (pc := 66) dX7_carry_66 rfl ?_
    refine j_v1 (pc := 68) (ci := 7) dX7_carry_68 mc_X7_strengthOf ml_X7_223 im_X7_strengthOf se_X7_strengthOf rfl rfl (by apply lkE; (with_reducible first | exact lkM_129 hp | exact lkM_133 hp | exact lkM_144 hp | exact lkM_134 hp | exact lkM_130 hp | exact lkM_131 hp | exact lkM_132 hp | exact lkM_135 hp | exact lkM_136 hp | exact lkM_137 hp | exact lkM_138 hp | exact lkM_145 hp | exact lkM_146 hp | exact lkM_139 hp | exact lkM_140 hp | exact lkM_141 hp | exact lkM_142 hp | exact lkM_143 hp); rfl) (by omega) (m_strengthOf hp hbe hnb) (Nat.le_of_ble_eq_true rfl) ?_
    refine j_istore (pc := 71) dX7_carry_71 (Nat.le_of_ble_eq_true rfl) rfl ?_
    refine j_iload (pc := 73) dX7_carry_73 rfl ?_
    refine j_iconst (pc := 75) dX7_carry_75 kc_2 ?_
    refine j_aload_n (pc := 76) dX7_carry_76 rfl ?_
    refine j_iload (pc := 77) dX7_carry_77 rfl ?_
    refine j_v1 (pc := 79) (ci := 7) dX7_carry_79 mc_X7_strengthOf ml_X7_223 im_X7_strengthOf se_X7_strengthOf rfl rfl (by apply lkE; (with_reducible first | exact lkM_129 hp | exact lkM_133 hp | exact lkM_144 hp | exact lkM_134 hp | exact lkM_130 hp | exact lkM_131 hp | exact lkM_132 hp | exact lkM_135 hp | exact lkM_136 hp | exact lkM_137 hp | exact lkM_138 hp | exact lkM_145 hp | exact lkM_146 hp | exact lkM_139 hp | exact lkM_140 hp | exact lkM_141 hp | exact lkM_142 hp | exact lkM_143 hp); rfl) (by omega) (m_strengthOf hp hbe hnb) (Nat.le_of_ble_eq_true rfl) ?_
    refine j_imul (pc := 82) dX7_carry_82 ?_
    refine j_isub (pc := 83) dX7_carry_83 ?_
    refine j_s1 (pc := 84) dX7_carry_84 mc_X7_size ml_X7_205 sm_X7_size (by omega) (m_size) (Nat.le_of_ble_eq_true rfl) ?_
    refine j_istore (pc := 87) dX7_carry_87 (Nat.le_of_ble_eq_true rfl) rfl ?_
    refine j_iload (pc := 89) dX7_carry_89 rfl ?_
    refine j_iload (pc := 91) dX7_carry_91 rfl ?_
    refine j_iconst (pc := 93) dX7_carry_93 kc_m1 ?_
    refine j_ixor (pc := 94) dX7_carry_94 ?_
    refine j_iand (pc := 95) dX7_carry_95 ?_
    refine j_if_ne (pc := 96) (tgt := 118) dX7_carry_96 rfl (fun zc96 => ?_) (fun zc96 => ?_)
    · refine j_iconst (pc := 118) dX7_carry_118 kc_0 ?_
      refine j_istore (pc := 119) dX7_carry_119 (Nat.le_of_ble_eq_true rfl) rfl ?_
      refine j_iload (pc := 121) dX7_carry_121 rfl ?_
      refine j_if_eq (pc := 123) (tgt := 165) dX7_carry_123 rfl (fun _ => ?_) (fun zc123 => absurd (show (0 : Int32) = 0 by decide) zc123)
      refine j_iinc (pc := 165) dX7_carry_165 rfl rfl (Nat.le_of_ble_eq_true rfl) rfl ?_
      refine j_goto (pc := 168) (tgt := 49) dX7_carry_168 rfl ?_
      rw [nI_s]
      refine j_weak (ls' := [some _, some _, some _, some _, some _, some _, some _, some _, none, none, none]) ⟨rfl, rfl, rfl, rfl, rfl, rfl, rfl, rfl, trivial⟩ (ih (j + 1) _ _ _ (by omega) ?_)
      rw [show iter (mcyStep sg nb w (nI k)) (m + 1) j (a, b, b2) = iter (mcyStep sg nb w (nI k)) m (j + 1) (mcyStep sg nb w (nI k) j (a, b, b2)) from rfl] at hq
      first
        | (rw [show mcyStep sg nb w (nI k) j (a, b, b2) = (a, b, b2) from by unfold mcyStep mcyB mcyP; rw [if_neg zc96]] at hq; exact hq)
        | (rw [show mcyStep sg nb w (nI k) j (a, b, b2) = (a, b, b2) from by unfold mcyStep mcyB mcyP; rw [if_pos zc96, if_neg zc105]] at hq; exact hq)
        | (rw [show mcyStep sg nb w (nI k) j (a, b, b2) = (a, b, b2) from by unfold mcyStep mcyB mcyP; rw [if_pos zc96, if_pos zc105, if_pos zc111]] at hq; exact hq)
        | (rw [show mcyStep sg nb w (nI k) j (a, b, b2) = (nI k, nI j, msz (mwI sg nb (nI k) - 2 * mwI sg nb (nI j))) from by unfold mcyStep mcyB mcyP; rw [if_pos zc96, if_pos zc105, if_neg zc111, if_pos zc127]] at hq; exact hq)
        | (rw [show mcyStep sg nb w (nI k) j (a, b, b2) = (nI k, nI j, msz (mwI sg nb (nI k) - 2 * mwI sg nb (nI j))) from by unfold mcyStep mcyB mcyP; rw [if_pos zc96, if_pos zc105, if_neg zc111, if_neg zc127, if_pos zc134]] at hq; exact hq)
        | (rw [show mcyStep sg nb w (nI k) j (a, b, b2) = (a, b, b2) from by unfold mcyStep mcyB mcyP; rw [if_pos zc96, if_pos zc105, if_neg zc111, if_neg zc127, if_neg zc134, if_neg zc141]] at hq; exact hq)
        | (rw [show mcyStep sg nb w (nI k) j (a, b, b2) = (a, b, b2) from by unfold mcyStep mcyB mcyP; rw [if_pos zc96, if_pos zc105, if_neg zc111, if_neg zc127, if_neg zc134, if_pos zc141, if_pos zc151]] at hq; exact hq)
        | (rw [show mcyStep sg nb w (nI k) j (a, b, b2) = (nI k, nI j, msz (mwI sg nb (nI k) - 2 * mwI sg nb (nI j))) from by unfold mcyStep mcyB mcyP; rw [if_pos zc96, if_pos zc105, if_neg zc111, if_neg zc127, if_neg zc134, if_pos zc141, if_neg zc151]] at hq; exact hq)
    · refine j_iload (pc := 99) dX7_carry_99 rfl ?_
      refine j_s1 (pc := 101) dX7_carry_101 mc_X7_bits ml_X7_202 sm_X7_bits (by omega) (m_bits) (Nat.le_of_ble_eq_true rfl) ?_
      refine j_iconst (pc := 104) dX7_carry_104 kc_2 ?_
      refine j_icmp_ne (pc := 105) (tgt := 118) dX7_carry_105 rfl (fun zc105 => ?_) (fun zc105 => ?_)
      · refine j_iconst (pc := 118) dX7_carry_118 kc_0 ?_
        refine j_istore (pc := 119) dX7_carry_119 (Nat.le_of_ble_eq_true rfl) rfl ?_
        refine j_iload (pc := 121) dX7_carry_121 rfl ?_
        refine j_if_eq (pc := 123) (tgt := 165) dX7_carry_123 rfl (fun _ => ?_) (fun zc123 => absurd (show (0 : Int32) = 0 by decide) zc123)
        refine j_iinc (pc := 165) dX7_carry_165 rfl rfl (Nat.le_of_ble_eq_true rfl) rfl ?_
        refine j_goto (pc := 168) (tgt := 49) dX7_carry_168 rfl ?_
        rw [nI_s]
        refine j_weak (ls' := [some _, some _, some _, some _, some _, some _, some _, some _, none, none, none]) ⟨rfl, rfl, rfl, rfl, rfl, rfl, rfl, rfl, trivial⟩ (ih (j + 1) _ _ _ (by omega) ?_)
        rw [show iter (mcyStep sg nb w (nI k)) (m + 1) j (a, b, b2) = iter (mcyStep sg nb w (nI k)) m (j + 1) (mcyStep sg nb w (nI k) j (a, b, b2)) from rfl] at hq
        first
          | (rw [show mcyStep sg nb w (nI k) j (a, b, b2) = (a, b, b2) from by unfold mcyStep mcyB mcyP; rw [if_neg zc96]] at hq; exact hq)
          | (rw [show mcyStep sg nb w (nI k) j (a, b, b2) = (a, b, b2) from by unfold mcyStep mcyB mcyP; rw [if_pos zc96, if_neg zc105]] at hq; exact hq)
          | (rw [show mcyStep sg nb w (nI k) j (a, b, b2) = (a, b, b2) from by unfold mcyStep mcyB mcyP; rw [if_pos zc96, if_pos zc105, if_pos zc111]] at hq; exact hq)
          | (rw [show mcyStep sg nb w (nI k) j (a, b, b2) = (nI k, nI j, msz (mwI sg nb (nI k) - 2 * mwI sg nb (nI j))) from by unfold mcyStep mcyB mcyP; rw [if_pos zc96, if_pos zc105, if_neg zc111, if_pos zc127]] at hq; exact hq)
          | (rw [show mcyStep sg nb w (nI k) j (a, b, b2) = (nI k, nI j, msz (mwI sg nb (nI k) - 2 * mwI sg nb (nI j))) from by unfold mcyStep mcyB mcyP; rw [if_pos zc96, if_pos zc105, if_neg zc111, if_neg zc127, if_pos zc134]] at hq; exact hq)
          | (rw [show mcyStep sg nb w (nI k) j (a, b, b2) = (a, b, b2) from by unfold mcyStep mcyB mcyP; rw [if_pos zc96, if_pos zc105, if_neg zc111, if_neg zc127, if_neg zc134, if_neg zc141]] at hq; exact hq)
          | (rw [show mcyStep sg nb w (nI k) j (a, b, b2) = (a, b, b2) from by unfold mcyStep mcyB mcyP; rw [if_pos zc96, if_pos zc105, if_neg zc111, if_neg zc127, if_neg zc134, if_pos zc141, if_pos zc151]] at hq; exact hq)
          | (rw [show mcyStep sg nb w (nI k) j (a, b, b2) = (nI k, nI j, msz (mwI sg nb (nI k) - 2 * mwI sg nb (nI j))) from by unfold mcyStep mcyB mcyP; rw [if_pos zc96, if_pos zc105, if_neg zc111, if_neg zc127, if_neg zc134, if_pos zc141, if_neg zc151]] at hq; exact hq)
      · refine j_iload (pc := 108) dX7_carry_108 rfl ?_
        refine j_iload_n (pc := 110) dX7_carry_110 rfl ?_
        refine j_icmp_lt (pc := 111) (tgt := 118) dX7_carry_111 rfl (fun zc111 => ?_) (fun zc111 => ?_)
        · refine j_iconst (pc := 118) dX7_carry_118 kc_0 ?_
          refine j_istore (pc := 119) dX7_carry_119 (Nat.le_of_ble_eq_true rfl) rfl ?_
          refine j_iload (pc := 121) dX7_carry_121 rfl ?_
          refine j_if_eq (pc := 123) (tgt := 165) dX7_carry_123 rfl (fun _ => ?_) (fun zc123 => absurd (show (0 : Int32) = 0 by decide) zc123)
          refine j_iinc (pc := 165) dX7_carry_165 rfl rfl (Nat.le_of_ble_eq_true rfl) rfl ?_
          refine j_goto (pc := 168) (tgt := 49) dX7_carry_168 rfl ?_
          rw [nI_s]
          refine j_weak (ls' := [some _, some _, some _, some _, some _, some _, some _, some _, none, none, none]) ⟨rfl, rfl, rfl, rfl, rfl, rfl, rfl, rfl, trivial⟩ (ih (j + 1) _ _ _ (by omega) ?_)
          rw [show iter (mcyStep sg nb w (nI k)) (m + 1) j (a, b, b2) = iter (mcyStep sg nb w (nI k)) m (j + 1) (mcyStep sg nb w (nI k) j (a, b, b2)) from rfl] at hq
          first
            | (rw [show mcyStep sg nb w (nI k) j (a, b, b2) = (a, b, b2) from by unfold mcyStep mcyB mcyP; rw [if_neg zc96]] at hq; exact hq)
            | (rw [show mcyStep sg nb w (nI k) j (a, b, b2) = (a, b, b2) from by unfold mcyStep mcyB mcyP; rw [if_pos zc96, if_neg zc105]] at hq; exact hq)
            | (rw [show mcyStep sg nb w (nI k) j (a, b, b2) = (a, b, b2) from by unfold mcyStep mcyB mcyP; rw [if_pos zc96, if_pos zc105, if_pos zc111]] at hq; exact hq)
            | (rw [show mcyStep sg nb w (nI k) j (a, b, b2) = (nI k, nI j, msz (mwI sg nb (nI k) - 2 * mwI sg nb (nI j))) from by unfold mcyStep mcyB mcyP; rw [if_pos zc96, if_pos zc105, if_neg zc111, if_pos zc127]] at hq; exact hq)
            | (rw [show mcyStep sg nb w (nI k) j (a, b, b2) = (nI k, nI j, msz (mwI sg nb (nI k) - 2 * mwI sg nb (nI j))) from by unfold mcyStep mcyB mcyP; rw [if_pos zc96, if_pos zc105, if_neg zc111, if_neg zc127, if_pos zc134]] at hq; exact hq)
            | (rw [show mcyStep sg nb w (nI k) j (a, b, b2) = (a, b, b2) from by unfold mcyStep mcyB mcyP; rw [if_pos zc96, if_pos zc105, if_neg zc111, if_neg zc127, if_neg zc134, if_neg zc141]] at hq; exact hq)
            | (rw [show mcyStep sg nb w (nI k) j (a, b, b2) = (a, b, b2) from by unfold mcyStep mcyB mcyP; rw [if_pos zc96, if_pos zc105, if_neg zc111, if_neg zc127, if_neg zc134, if_pos zc141, if_pos zc151]] at hq; exact hq)
            | (rw [show mcyStep sg nb w (nI k) j (a, b, b2) = (nI k, nI j, msz (mwI sg nb (nI k) - 2 * mwI sg nb (nI j))) from by unfold mcyStep mcyB mcyP; rw [if_pos zc96, if_pos zc105, if_neg zc111, if_neg zc127, if_neg zc134, if_pos zc141, if_neg zc151]] at hq; exact hq)
        · refine j_iconst (pc := 114) dX7_carry_114 kc_1 ?_
          refine j_goto (pc := 115) (tgt := 119) dX7_carry_115 rfl ?_
          refine j_istore (pc := 119) dX7_carry_119 (Nat.le_of_ble_eq_true rfl) rfl ?_
          refine j_iload (pc := 121) dX7_carry_121 rfl ?_
          refine j_if_eq (pc := 123) (tgt := 165) dX7_carry_123 rfl (fun zc123 => absurd zc123 (show ¬ (1 : Int32) = 0 by decide)) (fun _ => ?_)
          refine j_iload_n (pc := 126) dX7_carry_126 rfl ?_
          refine j_if_lt (pc := 127) (tgt := 154) dX7_carry_127 rfl (fun zc127 => ?_) (fun zc127 => ?_)
          · refine j_iload (pc := 154) dX7_carry_154 rfl ?_
            refine j_istore_n (pc := 156) dX7_carry_156 rfl (Nat.le_of_ble_eq_true rfl) rfl ?_
            refine j_iload (pc := 157) dX7_carry_157 rfl ?_
            refine j_istore (pc := 159) dX7_carry_159 (Nat.le_of_ble_eq_true rfl) rfl ?_
            refine j_iload (pc := 161) dX7_carry_161 rfl ?_
            refine j_istore (pc := 163) dX7_carry_163 (Nat.le_of_ble_eq_true rfl) rfl ?_
            refine j_iinc (pc := 165) dX7_carry_165 rfl rfl (Nat.le_of_ble_eq_true rfl) rfl ?_
            refine j_goto (pc := 168) (tgt := 49) dX7_carry_168 rfl ?_
            rw [nI_s]
            refine j_weak (ls' := [some _, some _, some _, some _, some _, some _, some _, some _, none, none, none]) ⟨rfl, rfl, rfl, rfl, rfl, rfl, rfl, rfl, trivial⟩ (ih (j + 1) _ _ _ (by omega) ?_)
            rw [show iter (mcyStep sg nb w (nI k)) (m + 1) j (a, b, b2) = iter (mcyStep sg nb w (nI k)) m (j + 1) (mcyStep sg nb w (nI k) j (a, b, b2)) from rfl] at hq
            first
              | (rw [show mcyStep sg nb w (nI k) j (a, b, b2) = (a, b, b2) from by unfold mcyStep mcyB mcyP; rw [if_neg zc96]] at hq; exact hq)
              | (rw [show mcyStep sg nb w (nI k) j (a, b, b2) = (a, b, b2) from by unfold mcyStep mcyB mcyP; rw [if_pos zc96, if_neg zc105]] at hq; exact hq)
              | (rw [show mcyStep sg nb w (nI k) j (a, b, b2) = (a, b, b2) from by unfold mcyStep mcyB mcyP; rw [if_pos zc96, if_pos zc105, if_pos zc111]] at hq; exact hq)
              | (rw [show mcyStep sg nb w (nI k) j (a, b, b2) = (nI k, nI j, msz (mwI sg nb (nI k) - 2 * mwI sg nb (nI j))) from by unfold mcyStep mcyB mcyP; rw [if_pos zc96, if_pos zc105, if_neg zc111, if_pos zc127]] at hq; exact hq)
              | (rw [show mcyStep sg nb w (nI k) j (a, b, b2) = (nI k, nI j, msz (mwI sg nb (nI k) - 2 * mwI sg nb (nI j))) from by unfold mcyStep mcyB mcyP; rw [if_pos zc96, if_pos zc105, if_neg zc111, if_neg zc127, if_pos zc134]] at hq; exact hq)
              | (rw [show mcyStep sg nb w (nI k) j (a, b, b2) = (a, b, b2) from by unfold mcyStep mcyB mcyP; rw [if_pos zc96, if_pos zc105, if_neg zc111, if_neg zc127, if_neg zc134, if_neg zc141]] at hq; exact hq)
              | (rw [show mcyStep sg nb w (nI k) j (a, b, b2) = (a, b, b2) from by unfold mcyStep mcyB mcyP; rw [if_pos zc96, if_pos zc105, if_neg zc111, if_neg zc127, if_neg zc134, if_pos zc141, if_pos zc151]] at hq; exact hq)
              | (rw [show mcyStep sg nb w (nI k) j (a, b, b2) = (nI k, nI j, msz (mwI sg nb (nI k) - 2 * mwI sg nb (nI j))) from by unfold mcyStep mcyB mcyP; rw [if_pos zc96, if_pos zc105, if_neg zc111, if_neg zc127, if_neg zc134, if_pos zc141, if_neg zc151]] at hq; exact hq)
          · refine j_iload (pc := 130) dX7_carry_130 rfl ?_
            refine j_iload (pc := 132) dX7_carry_132 rfl ?_
            refine j_icmp_lt (pc := 134) (tgt := 154) dX7_carry_134 rfl (fun zc134 => ?_) (fun zc134 => ?_)
            · refine j_iload (pc := 154) dX7_carry_154 rfl ?_
              refine j_istore_n (pc := 156) dX7_carry_156 rfl (Nat.le_of_ble_eq_true rfl) rfl ?_
              refine j_iload (pc := 157) dX7_carry_157 rfl ?_
              refine j_istore (pc := 159) dX7_carry_159 (Nat.le_of_ble_eq_true rfl) rfl ?_
              refine j_iload (pc := 161) dX7_carry_161 rfl ?_
              refine j_istore (pc := 163) dX7_carry_163 (Nat.le_of_ble_eq_true rfl) rfl ?_
              refine j_iinc (pc := 165) dX7_carry_165 rfl rfl (Nat.le_of_ble_eq_true rfl) rfl ?_
              refine j_goto (pc := 168) (tgt := 49) dX7_carry_168 rfl ?_
              rw [nI_s]
              refine j_weak (ls' := [some _, some _, some _, some _, some _, some _, some _, some _, none, none, none]) ⟨rfl, rfl, rfl, rfl, rfl, rfl, rfl, rfl, trivial⟩ (ih (j + 1) _ _ _ (by omega) ?_)
              rw [show iter (mcyStep sg nb w (nI k)) (m + 1) j (a, b, b2) = iter (mcyStep sg nb w (nI k)) m (j + 1) (mcyStep sg nb w (nI k) j (a, b, b2)) from rfl] at hq
              first
                | (rw [show mcyStep sg nb w (nI k) j (a, b, b2) = (a, b, b2) from by unfold mcyStep mcyB mcyP; rw [if_neg zc96]] at hq; exact hq)
                | (rw [show mcyStep sg nb w (nI k) j (a, b, b2) = (a, b, b2) from by unfold mcyStep mcyB mcyP; rw [if_pos zc96, if_neg zc105]] at hq; exact hq)
                | (rw [show mcyStep sg nb w (nI k) j (a, b, b2) = (a, b, b2) from by unfold mcyStep mcyB mcyP; rw [if_pos zc96, if_pos zc105, if_pos zc111]] at hq; exact hq)
                | (rw [show mcyStep sg nb w (nI k) j (a, b, b2) = (nI k, nI j, msz (mwI sg nb (nI k) - 2 * mwI sg nb (nI j))) from by unfold mcyStep mcyB mcyP; rw [if_pos zc96, if_pos zc105, if_neg zc111, if_pos zc127]] at hq; exact hq)
                | (rw [show mcyStep sg nb w (nI k) j (a, b, b2) = (nI k, nI j, msz (mwI sg nb (nI k) - 2 * mwI sg nb (nI j))) from by unfold mcyStep mcyB mcyP; rw [if_pos zc96, if_pos zc105, if_neg zc111, if_neg zc127, if_pos zc134]] at hq; exact hq)
                | (rw [show mcyStep sg nb w (nI k) j (a, b, b2) = (a, b, b2) from by unfold mcyStep mcyB mcyP; rw [if_pos zc96, if_pos zc105, if_neg zc111, if_neg zc127, if_neg zc134, if_neg zc141]] at hq; exact hq)
                | (rw [show mcyStep sg nb w (nI k) j (a, b, b2) = (a, b, b2) from by unfold mcyStep mcyB mcyP; rw [if_pos zc96, if_pos zc105, if_neg zc111, if_neg zc127, if_neg zc134, if_pos zc141, if_pos zc151]] at hq; exact hq)
                | (rw [show mcyStep sg nb w (nI k) j (a, b, b2) = (nI k, nI j, msz (mwI sg nb (nI k) - 2 * mwI sg nb (nI j))) from by unfold mcyStep mcyB mcyP; rw [if_pos zc96, if_pos zc105, if_neg zc111, if_neg zc127, if_neg zc134, if_pos zc141, if_neg zc151]] at hq; exact hq)
            · refine j_iload (pc := 137) dX7_carry_137 rfl ?_
              refine j_iload (pc := 139) dX7_carry_139 rfl ?_
              refine j_icmp_ne (pc := 141) (tgt := 165) dX7_carry_141 rfl (fun zc141 => ?_) (fun zc141 => ?_)
              · refine j_iinc (pc := 165) dX7_carry_165 rfl rfl (Nat.le_of_ble_eq_true rfl) rfl ?_
                refine j_goto (pc := 168) (tgt := 49) dX7_carry_168 rfl ?_
                rw [nI_s]
                refine j_weak (ls' := [some _, some _, some _, some _, some _, some _, some _, some _, none, none, none]) ⟨rfl, rfl, rfl, rfl, rfl, rfl, rfl, rfl, trivial⟩ (ih (j + 1) _ _ _ (by omega) ?_)
                rw [show iter (mcyStep sg nb w (nI k)) (m + 1) j (a, b, b2) = iter (mcyStep sg nb w (nI k)) m (j + 1) (mcyStep sg nb w (nI k) j (a, b, b2)) from rfl] at hq
                first
                  | (rw [show mcyStep sg nb w (nI k) j (a, b, b2) = (a, b, b2) from by unfold mcyStep mcyB mcyP; rw [if_neg zc96]] at hq; exact hq)
                  | (rw [show mcyStep sg nb w (nI k) j (a, b, b2) = (a, b, b2) from by unfold mcyStep mcyB mcyP; rw [if_pos zc96, if_neg zc105]] at hq; exact hq)
                  | (rw [show mcyStep sg nb w (nI k) j (a, b, b2) = (a, b, b2) from by unfold mcyStep mcyB mcyP; rw [if_pos zc96, if_pos zc105, if_pos zc111]] at hq; exact hq)
                  | (rw [show mcyStep sg nb w (nI k) j (a, b, b2) = (nI k, nI j, msz (mwI sg nb (nI k) - 2 * mwI sg nb (nI j))) from by unfold mcyStep mcyB mcyP; rw [if_pos zc96, if_pos zc105, if_neg zc111, if_pos zc127]] at hq; exact hq)
                  | (rw [show mcyStep sg nb w (nI k) j (a, b, b2) = (nI k, nI j, msz (mwI sg nb (nI k) - 2 * mwI sg nb (nI j))) from by unfold mcyStep mcyB mcyP; rw [if_pos zc96, if_pos zc105, if_neg zc111, if_neg zc127, if_pos zc134]] at hq; exact hq)
                  | (rw [show mcyStep sg nb w (nI k) j (a, b, b2) = (a, b, b2) from by unfold mcyStep mcyB mcyP; rw [if_pos zc96, if_pos zc105, if_neg zc111, if_neg zc127, if_neg zc134, if_neg zc141]] at hq; exact hq)
                  | (rw [show mcyStep sg nb w (nI k) j (a, b, b2) = (a, b, b2) from by unfold mcyStep mcyB mcyP; rw [if_pos zc96, if_pos zc105, if_neg zc111, if_neg zc127, if_neg zc134, if_pos zc141, if_pos zc151]] at hq; exact hq)
                  | (rw [show mcyStep sg nb w (nI k) j (a, b, b2) = (nI k, nI j, msz (mwI sg nb (nI k) - 2 * mwI sg nb (nI j))) from by unfold mcyStep mcyB mcyP; rw [if_pos zc96, if_pos zc105, if_neg zc111, if_neg zc127, if_neg zc134, if_pos zc141, if_neg zc151]] at hq; exact hq)
              · refine j_iload (pc := 144) dX7_carry_144 rfl ?_
                refine j_aload_n (pc := 146) dX7_carry_146 rfl ?_
                refine j_iload_n (pc := 147) dX7_carry_147 rfl ?_
                refine j_v1 (pc := 148) (ci := 7) dX7_carry_148 mc_X7_strengthOf ml_X7_223 im_X7_strengthOf se_X7_strengthOf rfl rfl (by apply lkE; (with_reducible first | exact lkM_129 hp | exact lkM_133 hp | exact lkM_144 hp | exact lkM_134 hp | exact lkM_130 hp | exact lkM_131 hp | exact lkM_132 hp | exact lkM_135 hp | exact lkM_136 hp | exact lkM_137 hp | exact lkM_138 hp | exact lkM_145 hp | exact lkM_146 hp | exact lkM_139 hp | exact lkM_140 hp | exact lkM_141 hp | exact lkM_142 hp | exact lkM_143 hp); rfl) (by omega) (m_strengthOf hp hbe hnb) (Nat.le_of_ble_eq_true rfl) ?_
                refine j_icmp_ge (pc := 151) (tgt := 165) dX7_carry_151 rfl (fun zc151 => ?_) (fun zc151 => ?_)
                · refine j_iinc (pc := 165) dX7_carry_165 rfl rfl (Nat.le_of_ble_eq_true rfl) rfl ?_
                  refine j_goto (pc := 168) (tgt := 49) dX7_carry_168 rfl ?_
                  rw [nI_s]
                  refine j_weak (ls' := [some _, some _, some _, some _, some _, some _, some _, some _, none, none, none]) ⟨rfl, rfl, rfl, rfl, rfl, rfl, rfl, rfl, trivial⟩ (ih (j + 1) _ _ _ (by omega) ?_)
                  rw [show iter (mcyStep sg nb w (nI k)) (m + 1) j (a, b, b2) = iter (mcyStep sg nb w (nI k)) m (j + 1) (mcyStep sg nb w (nI k) j (a, b, b2)) from rfl] at hq
                  first
                    | (rw [show mcyStep sg nb w (nI k) j (a, b, b2) = (a, b, b2) from by unfold mcyStep mcyB mcyP; rw [if_neg zc96]] at hq; exact hq)
                    | (rw [show mcyStep sg nb w (nI k) j (a, b, b2) = (a, b, b2) from by unfold mcyStep mcyB mcyP; rw [if_pos zc96, if_neg zc105]] at hq; exact hq)
                    | (rw [show mcyStep sg nb w (nI k) j (a, b, b2) = (a, b, b2) from by unfold mcyStep mcyB mcyP; rw [if_pos zc96, if_pos zc105, if_pos zc111]] at hq; exact hq)
                    | (rw [show mcyStep sg nb w (nI k) j (a, b, b2) = (nI k, nI j, msz (mwI sg nb (nI k) - 2 * mwI sg nb (nI j))) from by unfold mcyStep mcyB mcyP; rw [if_pos zc96, if_pos zc105, if_neg zc111, if_pos zc127]] at hq; exact hq)
                    | (rw [show mcyStep sg nb w (nI k) j (a, b, b2) = (nI k, nI j, msz (mwI sg nb (nI k) - 2 * mwI sg nb (nI j))) from by unfold mcyStep mcyB mcyP; rw [if_pos zc96, if_pos zc105, if_neg zc111, if_neg zc127, if_pos zc134]] at hq; exact hq)
                    | (rw [show mcyStep sg nb w (nI k) j (a, b, b2) = (a, b, b2) from by unfold mcyStep mcyB mcyP; rw [if_pos zc96, if_pos zc105, if_neg zc111, if_neg zc127, if_neg zc134, if_neg zc141]] at hq; exact hq)
                    | (rw [show mcyStep sg nb w (nI k) j (a, b, b2) = (a, b, b2) from by unfold mcyStep mcyB mcyP; rw [if_pos zc96, if_pos zc105, if_neg zc111, if_neg zc127, if_neg zc134, if_pos zc141, if_pos zc151]] at hq; exact hq)
                    | (rw [show mcyStep sg nb w (nI k) j (a, b, b2) = (nI k, nI j, msz (mwI sg nb (nI k) - 2 * mwI sg nb (nI j))) from by unfold mcyStep mcyB mcyP; rw [if_pos zc96, if_pos zc105, if_neg zc111, if_neg zc127, if_neg zc134, if_pos zc141, if_neg zc151]] at hq; exact hq)
                · refine j_iload (pc := 154) dX7_carry_154 rfl ?_
                  refine j_istore_n (pc := 156) dX7_carry_156 rfl (Nat.le_of_ble_eq_true rfl) rfl ?_
                  refine j_iload (pc := 157) dX7_carry_157 rfl ?_
                  refine j_istore (pc := 159) dX7_carry_159 (Nat.le_of_ble_eq_true rfl) rfl ?_
                  refine j_iload (pc := 161) dX7_carry_161 rfl ?_
                  refine j_istore (pc := 163) dX7_carry_163 (Nat.le_of_ble_eq_true rfl) rfl ?_
                  refine j_iinc (pc := 165) dX7_carry_165 rfl rfl (Nat.le_of_ble_eq_true rfl) rfl ?_
                  refine j_goto (pc := 168) (tgt := 49) dX7_carry_168 rfl ?_
                  rw [nI_s]
                  refine j_weak (ls' := [some _, some _, some _, some _, some _, some _, some _, some _, none, none, none]) ⟨rfl, rfl, rfl, rfl, rfl, rfl, rfl, rfl, trivial⟩ (ih (j + 1) _ _ _ (by omega) ?_)
                  rw [show iter (mcyStep sg nb w (nI k)) (m + 1) j (a, b, b2) = iter (mcyStep sg nb w (nI k)) m (j + 1) (mcyStep sg nb w (nI k) j (a, b, b2)) from rfl] at hq
                  first
                    | (rw [show mcyStep sg nb w (nI k) j (a, b, b2) = (a, b, b2) from by unfold mcyStep mcyB mcyP; rw [if_neg zc96]] at hq; exact hq)
                    | (rw [show mcyStep sg nb w (nI k) j (a, b, b2) = (a, b, b2) from by unfold mcyStep mcyB mcyP; rw [if_pos zc96, if_neg zc105]] at hq; exact hq)
                    | (rw [show mcyStep sg nb w (nI k) j (a, b, b2) = (a, b, b2) from by unfold mcyStep mcyB mcyP; rw [if_pos zc96, if_pos zc105, if_pos zc111]] at hq; exact hq)
                    | (rw [show mcyStep sg nb w (nI k) j (a, b, b2) = (nI k, nI j, msz (mwI sg nb (nI k) - 2 * mwI sg nb (nI j))) from by unfold mcyStep mcyB mcyP; rw [if_pos zc96, if_pos zc105, if_neg zc111, if_pos zc127]] at hq; exact hq)
                    | (rw [show mcyStep sg nb w (nI k) j (a, b, b2) = (nI k, nI j, msz (mwI sg nb (nI k) - 2 * mwI sg nb (nI j))) from by unfold mcyStep mcyB mcyP; rw [if_pos zc96, if_pos zc105, if_neg zc111, if_neg zc127, if_pos zc134]] at hq; exact hq)
                    | (rw [show mcyStep sg nb w (nI k) j (a, b, b2) = (a, b, b2) from by unfold mcyStep mcyB mcyP; rw [if_pos zc96, if_pos zc105, if_neg zc111, if_neg zc127, if_neg zc134, if_neg zc141]] at hq; exact hq)
                    | (rw [show mcyStep sg nb w (nI k) j (a, b, b2) = (a, b, b2) from by unfold mcyStep mcyB mcyP; rw [if_pos zc96, if_pos zc105, if_neg zc111, if_neg zc127, if_neg zc134, if_pos zc141, if_pos zc151]] at hq; exact hq)
                    | (rw [show mcyStep sg nb w (nI k) j (a, b, b2) = (nI k, nI j, msz (mwI sg nb (nI k) - 2 * mwI sg nb (nI j))) from by unfold mcyStep mcyB mcyP; rw [if_pos zc96, if_pos zc105, if_neg zc111, if_neg zc127, if_neg zc134, if_pos zc141, if_neg zc151]] at hq; exact hq)

set_option maxRecDepth 20000 in
set_option maxHeartbeats 200000 in
theorem ml_carry (hp : pre.length = 129) {w c : Int32} {nb : Nat} (hbe : be = nI nb) (hnb : nb ≤ 6) : ∀ (m k : Nat) (a b b2 : Int32), k + m = 2 ^ nb → Q (some (.int (if (iter (mcoStep sg nb w) m k (a, b, b2)).1 < 0 then (iter (mcoStep sg nb w) m k (a, b, b2)).1 else if c = 0 then (iter (mcoStep sg nb w) m k (a, b, b2)).1 else if c = 1 then (iter (mcoStep sg nb w) m k (a, b, b2)).2.1 else (iter (mcoStep sg nb w) m k (a, b, b2)).2.2))) (W2 pre de we da bo be sg pi ru st wa kn im ik tm to tr tx tn cu sa tk nu wr it sd swt sdd sbx sfl sdi sb sst sp sr nw od bs) → J g mX7_carry 7 0 0 Q (W2 pre de we da bo be sg pi ru st wa kn im ik tm to tr tx tn cu sa tk nu wr it sd swt sdd sbx sfl sdi sb sst sp sr nw od bs) 35 [some (.ref 129), some (.int w), some (.int c), some (.int a), some (.int b), some (.int b2), some (.int (nI k)), none, none, none, none] [] := by
  have two := two_le hnb
  intro m
  induction m with
  | zero =>
    intro k a b b2 hk hq
    refine j_iload (pc := 35) dX7_carry_35 rfl ?_
    refine j_iconst (pc := 37) dX7_carry_37 kc_1 ?_
    refine j_aload_n (pc := 38) dX7_carry_38 rfl ?_
    refine j_getf (pc := 39) dX7_carry_39 fl_X7_151 (by apply lkE; (with_reducible first | exact lkM_129 hp | exact lkM_133 hp | exact lkM_144 hp | exact lkM_134 hp | exact lkM_130 hp | exact lkM_131 hp | exact lkM_132 hp | exact lkM_135 hp | exact lkM_136 hp | exact lkM_137 hp | exact lkM_138 hp | exact lkM_145 hp | exact lkM_146 hp | exact lkM_139 hp | exact lkM_140 hp | exact lkM_141 hp | exact lkM_142 hp | exact lkM_143 hp); rfl) rfl ?_
    refine j_ishl (pc := 42) dX7_carry_42 ?_
    refine j_icmp_ge (pc := 43) (tgt := 177) dX7_carry_43 rfl (fun _ => ?_) (fun zc43 => absurd (by rw [hbe, shl2 hnb]; exact nI_le (by omega) (by omega)) zc43)
    refine j_iload_n (pc := 177) dX7_carry_177 rfl ?_
    refine j_if_lt (pc := 178) (tgt := 185) dX7_carry_178 rfl (fun zc178 => ?_) (fun zc178 => ?_)
    · refine j_iload_n (pc := 185) dX7_carry_185 rfl ?_
      refine j_goto (pc := 186) (tgt := 201) dX7_carry_186 rfl ?_
      refine j_ireturn (pc := 201) dX7_carry_201 rfl ?_
      simpa [iter, *] using hq
    · refine j_iload_n (pc := 181) dX7_carry_181 rfl ?_
      refine j_if_ne (pc := 182) (tgt := 189) dX7_carry_182 rfl (fun zc182 => ?_) (fun zc182 => ?_)
      · refine j_iload_n (pc := 189) dX7_carry_189 rfl ?_
        refine j_iconst (pc := 190) dX7_carry_190 kc_1 ?_
        refine j_icmp_ne (pc := 191) (tgt := 199) dX7_carry_191 rfl (fun zc191 => ?_) (fun zc191 => ?_)
        · refine j_iload (pc := 199) dX7_carry_199 rfl ?_
          refine j_ireturn (pc := 201) dX7_carry_201 rfl ?_
          simpa [iter, *] using hq
        · refine j_iload (pc := 194) dX7_carry_194 rfl ?_
          refine j_goto (pc := 196) (tgt := 201) dX7_carry_196 rfl ?_
          refine j_ireturn (pc := 201) dX7_carry_201 rfl ?_
          simpa [iter, *] using hq
      · refine j_iload_n (pc := 185) dX7_carry_185 rfl ?_
        refine j_goto (pc := 186) (tgt := 201) dX7_carry_186 rfl ?_
        refine j_ireturn (pc := 201) dX7_carry_201 rfl ?_
        simpa [iter, *] using hq
  | succ m ih =>
    intro k a b b2 hk hq
    refine j_iload (pc := 35) dX7_carry_35 rfl ?_
    refine j_iconst (pc := 37) dX7_carry_37 kc_1 ?_
    refine j_aload_n (pc := 38) dX7_carry_38 rfl ?_
    refine j_getf (pc := 39) dX7_carry_39 fl_X7_151 (by apply lkE; (with_reducible first | exact lkM_129 hp | exact lkM_133 hp | exact lkM_144 hp | exact lkM_134 hp | exact lkM_130 hp | exact lkM_131 hp | exact lkM_132 hp | exact lkM_135 hp | exact lkM_136 hp | exact lkM_137 hp | exact lkM_138 hp | exact lkM_145 hp | exact lkM_146 hp | exact lkM_139 hp | exact lkM_140 hp | exact lkM_141 hp | exact lkM_142 hp | exact lkM_143 hp); rfl) rfl ?_
    refine j_ishl (pc := 42) dX7_carry_42 ?_
    refine j_icmp_ge (pc := 43) (tgt := 177) dX7_carry_43 rfl (fun zc43 => absurd zc43 (by rw [hbe, shl2 hnb]; exact nI_ge (by omega) (by omega))) (fun _ => ?_)
    refine j_iconst (pc := 46) dX7_carry_46 kc_0 ?_
    refine j_istore (pc := 47) dX7_carry_47 (Nat.le_of_ble_eq_true rfl) rfl ?_
    by_cases h4 : mbits (nI k) = 4
    · refine ml_carryIn hp (by omega) h4 hbe hnb k 0 a b b2 (by omega) ?_
      refine j_iinc (pc := 171) dX7_carry_171 rfl rfl (Nat.le_of_ble_eq_true rfl) rfl ?_
      refine j_goto (pc := 174) (tgt := 35) dX7_carry_174 rfl ?_
      rw [nI_s]
      refine j_weak (ls' := [some _, some _, some _, some _, some _, some _, some _, none, none, none, none]) ⟨rfl, rfl, rfl, rfl, rfl, rfl, rfl, trivial⟩ (ih (k + 1) _ _ _ (by omega) ?_)
      simpa [iter, mcoStep, *] using hq
    · refine j_iload (pc := 49) dX7_carry_49 rfl ?_
      refine j_iload (pc := 51) dX7_carry_51 rfl ?_
      refine j_icmp_ge (pc := 53) (tgt := 171) dX7_carry_53 rfl (fun zc53 => ?_) (fun zc53 => ?_)
      · refine j_iinc (pc := 171) dX7_carry_171 rfl rfl (Nat.le_of_ble_eq_true rfl) rfl ?_
        refine j_goto (pc := 174) (tgt := 35) dX7_carry_174 rfl ?_
        rw [nI_s]
        refine j_weak (ls' := [some _, some _, some _, some _, some _, some _, some _, none, none, none, none]) ⟨rfl, rfl, rfl, rfl, rfl, rfl, rfl, trivial⟩ (ih (k + 1) _ _ _ (by omega) ?_)
        simpa [iter, mcoStep, *] using hq
      · refine j_iload (pc := 56) dX7_carry_56 rfl ?_
        refine j_s1 (pc := 58) dX7_carry_58 mc_X7_bits ml_X7_202 sm_X7_bits (by omega) (m_bits) (Nat.le_of_ble_eq_true rfl) ?_
        refine j_iconst (pc := 61) dX7_carry_61 kc_4 ?_
        refine j_icmp_ne (pc := 62) (tgt := 171) dX7_carry_62 rfl (fun _ => ?_) (fun zc62 => absurd zc62 h4)
        refine j_iinc (pc := 171) dX7_carry_171 rfl rfl (Nat.le_of_ble_eq_true rfl) rfl ?_
        refine j_goto (pc := 174) (tgt := 35) dX7_carry_174 rfl ?_
        rw [nI_s]
        refine j_weak (ls' := [some _, some _, some _, some _, some _, some _, some _, none, none, none, none]) ⟨rfl, rfl, rfl, rfl, rfl, rfl, rfl, trivial⟩ (ih (k + 1) _ _ _ (by omega) ?_)
        simpa [iter, mcoStep, *] using hq

set_option maxRecDepth 20000 in
set_option maxHeartbeats 200000 in
theorem m_carry (hp : pre.length = 129) {w c : Int32} {nb : Nat} (hbe : be = nI nb) (hnb : nb ≤ 6) (h1 : (jin w 1 240 && jin c 0 2) = false → Q (some (.int (-1))) (W2 pre de we da bo be sg pi ru st wa kn im ik tm to tr tx tn cu sa tk nu wr it sd swt sdd sbx sfl sdi sb sst sp sr nw od bs)) (h2 : jin w 1 240 = true → jin c 0 2 = true → Q (some (.int (mcyI sg nb w c))) (W2 pre de we da bo be sg pi ru st wa kn im ik tm to tr tx tn cu sa tk nu wr it sd swt sdd sbx sfl sdi sb sst sp sr nw od bs)) : C g 7 0 0 mX7_carry [.ref 129, .int w, .int c] (W2 pre de we da bo be sg pi ru st wa kn im ik tm to tr tx tn cu sa tk nu wr it sd swt sdd sbx sfl sdi sb sst sp sr nw od bs) Q := by
  refine C.of (by decide +kernel) (by simp [Value.category]) (Nat.le_of_ble_eq_true rfl) ?_
  change J g mX7_carry 7 0 0 _ (W2 pre de we da bo be sg pi ru st wa kn im ik tm to tr tx tn cu sa tk nu wr it sd swt sdd sbx sfl sdi sb sst sp sr nw od bs) 0 [some (.ref 129), some (.int w), some (.int c), none, none, none, none, none, none, none, none] []
  refine j_iload_n (pc := 0) dX7_carry_0 rfl ?_
  refine j_iconst (pc := 1) dX7_carry_1 kc_1 ?_
  refine j_sipush (pc := 2) dX7_carry_2 ks_240 ?_
  refine j_s3 (pc := 5) dX7_carry_5 mc_X7_in ml_X7_72 sm_X7_in (by omega) (c_in) (Nat.le_of_ble_eq_true rfl) ?_
  refine j_beq (pc := 8) (tgt := 20) dX7_carry_8 rfl (fun zc8 => ?_) (fun zc8 => ?_)
  · refine j_iconst (pc := 20) dX7_carry_20 kc_m1 ?_
    refine j_ireturn (pc := 21) dX7_carry_21 rfl ?_
    first
      | exact h1 (by rw [zc8, Bool.false_and])
      | exact h1 (by rw [zc17, Bool.and_false])
  · refine j_iload_n (pc := 11) dX7_carry_11 rfl ?_
    refine j_iconst (pc := 12) dX7_carry_12 kc_0 ?_
    refine j_iconst (pc := 13) dX7_carry_13 kc_2 ?_
    refine j_s3 (pc := 14) dX7_carry_14 mc_X7_in ml_X7_72 sm_X7_in (by omega) (c_in) (Nat.le_of_ble_eq_true rfl) ?_
    refine j_bne (pc := 17) (tgt := 22) dX7_carry_17 rfl (fun zc17 => ?_) (fun zc17 => ?_)
    · refine j_bipush (pc := 22) dX7_carry_22 kb_m9 ?_
      refine j_istore_n (pc := 24) dX7_carry_24 rfl (Nat.le_of_ble_eq_true rfl) rfl ?_
      refine j_bipush (pc := 25) dX7_carry_25 kb_m9 ?_
      refine j_istore (pc := 27) dX7_carry_27 (Nat.le_of_ble_eq_true rfl) rfl ?_
      refine j_iconst (pc := 29) dX7_carry_29 kc_0 ?_
      refine j_istore (pc := 30) dX7_carry_30 (Nat.le_of_ble_eq_true rfl) rfl ?_
      refine j_iconst (pc := 32) dX7_carry_32 kc_0 ?_
      refine j_istore (pc := 33) dX7_carry_33 (Nat.le_of_ble_eq_true rfl) rfl ?_
      have two := two_le hnb
      exact ml_carry hp hbe hnb (2 ^ nb) 0 (-9) (-9) 0 (by omega) (h2 zc8 zc17)
    · refine j_iconst (pc := 20) dX7_carry_20 kc_m1 ?_
      refine j_ireturn (pc := 21) dX7_carry_21 rfl ?_
      first
        | exact h1 (by rw [zc8, Bool.false_and])
        | exact h1 (by rw [zc17, Bool.and_false])

set_option maxRecDepth 20000 in
set_option maxHeartbeats 200000 in
theorem ml_lowest {x0 b0 c : Int32} (hm : Nat) : ∀ (m : Nat) (y z : Int32) (o : Option Value), z.toInt < m → (0 < z.toInt ∨ ¬ y = 0) → J g mX7_lowest 0 0 0 (fun r h' => r = some (.int ((if c = 0 then x0 else b0) / gcL m y z)) ∧ h' = h) h 5 [some (.int x0), some (.int b0), some (.int c), some (.int y), some (.int z), o] [] := by
  intro m
  induction m with
  | zero =>
    intro y z o hz hy
    have hy0 : ¬ y = 0 := by
      rcases hy with q | q
      · omega
      · exact q
    have hz0 : z ≤ 0 := Int32.le_iff_toInt_le.mpr (show z.toInt ≤ 0 by omega)
    refine j_iload (pc := 5) dX7_lowest_5 rfl ?_
    refine j_if_le (pc := 7) (tgt := 26) dX7_lowest_7 rfl (fun _ => ?_) (fun zc7 => absurd hz0 zc7)
    refine j_iload_n (pc := 26) dX7_lowest_26 rfl ?_
    refine j_if_ne (pc := 27) (tgt := 34) dX7_lowest_27 rfl (fun zc27 => ?_) (fun zc27 => ?_)
    · refine j_iload_n (pc := 34) dX7_lowest_34 rfl ?_
      refine j_iload_n (pc := 35) dX7_lowest_35 rfl ?_
      refine j_idiv (pc := 36) dX7_lowest_36 hy0 ?_
      refine j_ireturn (pc := 37) dX7_lowest_37 rfl ?_
      exact ⟨by simp [gcL, *], rfl⟩
    · refine j_iload_n (pc := 30) dX7_lowest_30 rfl ?_
      refine j_goto (pc := 31) (tgt := 35) dX7_lowest_31 rfl ?_
      refine j_iload_n (pc := 35) dX7_lowest_35 rfl ?_
      refine j_idiv (pc := 36) dX7_lowest_36 hy0 ?_
      refine j_ireturn (pc := 37) dX7_lowest_37 rfl ?_
      exact ⟨by simp [gcL, *], rfl⟩
  | succ m ih =>
    intro y z o hz hy
    by_cases hz0 : z ≤ 0
    · have hy0 : ¬ y = 0 := by
        rcases hy with q | q
        · exact absurd (Int32.le_iff_toInt_le.mp hz0) (show ¬ z.toInt ≤ 0 by omega)
        · exact q
      rw [gcL, if_pos hz0]
      refine j_iload (pc := 5) dX7_lowest_5 rfl ?_
      refine j_if_le (pc := 7) (tgt := 26) dX7_lowest_7 rfl (fun _ => ?_) (fun zc7 => absurd hz0 zc7)
      refine j_iload_n (pc := 26) dX7_lowest_26 rfl ?_
      refine j_if_ne (pc := 27) (tgt := 34) dX7_lowest_27 rfl (fun zc27 => ?_) (fun zc27 => ?_)
      · refine j_iload_n (pc := 34) dX7_lowest_34 rfl ?_
        refine j_iload_n (pc := 35) dX7_lowest_35 rfl ?_
        refine j_idiv (pc := 36) dX7_lowest_36 hy0 ?_
        refine j_ireturn (pc := 37) dX7_lowest_37 rfl ?_
        exact ⟨by simp [*], rfl⟩
      · refine j_iload_n (pc := 30) dX7_lowest_30 rfl ?_
        refine j_goto (pc := 31) (tgt := 35) dX7_lowest_31 rfl ?_
        refine j_iload_n (pc := 35) dX7_lowest_35 rfl ?_
        refine j_idiv (pc := 36) dX7_lowest_36 hy0 ?_
        refine j_ireturn (pc := 37) dX7_lowest_37 rfl ?_
        exact ⟨by simp [*], rfl⟩
    · rw [gcL, if_neg hz0]
      have hz1 := i32_pos hz0
      have hz2 := rem_lt (y := y) hz1
      have hz3 : ¬ z = 0 := fun e => hz0 (by rw [e]; decide)
      refine j_iload (pc := 5) dX7_lowest_5 rfl ?_
      refine j_if_le (pc := 7) (tgt := 26) dX7_lowest_7 rfl (fun zc7 => absurd zc7 hz0) (fun _ => ?_)
      refine j_iload_n (pc := 10) dX7_lowest_10 rfl ?_
      refine j_iload (pc := 11) dX7_lowest_11 rfl ?_
      refine j_irem (pc := 13) dX7_lowest_13 hz3 ?_
      refine j_istore (pc := 14) dX7_lowest_14 (Nat.le_of_ble_eq_true rfl) rfl ?_
      refine j_iload (pc := 16) dX7_lowest_16 rfl ?_
      refine j_istore_n (pc := 18) dX7_lowest_18 rfl (Nat.le_of_ble_eq_true rfl) rfl ?_
      refine j_iload (pc := 19) dX7_lowest_19 rfl ?_
      refine j_istore (pc := 21) dX7_lowest_21 (Nat.le_of_ble_eq_true rfl) rfl ?_
      refine j_goto (pc := 23) (tgt := 5) dX7_lowest_23 rfl ?_
      exact ih z (y - y / z * z) _ (by omega) (Or.inr hz3)

set_option maxRecDepth 20000 in
set_option maxHeartbeats 200000 in
theorem m_lowest {x0 b0 c : Int32} (h0 : 0 < b0) (h1 : b0 ≤ 1000000) : CD g 0 mX7_lowest [.int x0, .int b0, .int c] h (some (.int ((if c = 0 then x0 else b0) / gcL 1000001 x0 b0))) h := by
  refine C.of (by decide +kernel) (by simp [Value.category]) (Nat.le_of_ble_eq_true rfl) ?_
  change J g mX7_lowest 0 0 0 _ h 0 [some (.int x0), some (.int b0), some (.int c), none, none, none] []
  refine j_iload_n (pc := 0) dX7_lowest_0 rfl ?_
  refine j_istore_n (pc := 1) dX7_lowest_1 rfl (Nat.le_of_ble_eq_true rfl) rfl ?_
  refine j_iload_n (pc := 2) dX7_lowest_2 rfl ?_
  refine j_istore (pc := 3) dX7_lowest_3 (Nat.le_of_ble_eq_true rfl) rfl ?_
  have h2 := Int32.lt_iff_toInt_lt.mp h0
  have h3 := Int32.le_iff_toInt_le.mp h1
  have h4 : (0 : Int32).toInt = 0 := rfl
  have h5 : (1000000 : Int32).toInt = 1000000 := by decide
  exact ml_lowest 0 1000001 _ _ _ (by omega) (Or.inl (by omega))

set_option maxRecDepth 20000 in
set_option maxHeartbeats 200000 in
theorem ml_below (hp : pre.length = 129) {x kk c : Int32} {nb : Nat} (hbe : be = nI nb) (hnb : nb ≤ 6) : ∀ (m k : Nat) (a : Int32), k + m = nb → J g mX7_odds 1 0 0 Q (W2 pre de we da bo be sg pi ru st wa kn im ik tm to tr tx tn cu sa tk nu wr it sd swt sdd sbx sfl sdi sb sst sp sr nw od bs) 62 [some (.ref 129), some (.int x), some (.int kk), some (.int c), some (.int 0), some (.int (powI 10 m k a)), some (.int (nI nb)), none, none] [] → J g mX7_odds 1 0 0 Q (W2 pre de we da bo be sg pi ru st wa kn im ik tm to tr tx tn cu sa tk nu wr it sd swt sdd sbx sfl sdi sb sst sp sr nw od bs) 40 [some (.ref 129), some (.int x), some (.int kk), some (.int c), some (.int 0), some (.int a), some (.int (nI k)), none, none] [] := by
  intro m
  induction m with
  | zero =>
    intro k a hk hq
    refine j_iload (pc := 40) dX7_odds_40 rfl ?_
    refine j_aload_n (pc := 42) dX7_odds_42 rfl ?_
    refine j_getf (pc := 43) dX7_odds_43 fl_X7_151 (by apply lkE; (with_reducible first | exact lkM_129 hp | exact lkM_133 hp | exact lkM_144 hp | exact lkM_134 hp | exact lkM_130 hp | exact lkM_131 hp | exact lkM_132 hp | exact lkM_135 hp | exact lkM_136 hp | exact lkM_137 hp | exact lkM_138 hp | exact lkM_145 hp | exact lkM_146 hp | exact lkM_139 hp | exact lkM_140 hp | exact lkM_141 hp | exact lkM_142 hp | exact lkM_143 hp); rfl) rfl ?_
    refine j_icmp_ge (pc := 46) (tgt := 62) dX7_odds_46 rfl (fun _ => ?_) (fun zc46 => absurd (by rw [hbe]; exact nI_le (by omega) (by omega)) zc46)
    rw [show k = nb by omega]
    exact hq
  | succ m ih =>
    intro k a hk hq
    refine j_iload (pc := 40) dX7_odds_40 rfl ?_
    refine j_aload_n (pc := 42) dX7_odds_42 rfl ?_
    refine j_getf (pc := 43) dX7_odds_43 fl_X7_151 (by apply lkE; (with_reducible first | exact lkM_129 hp | exact lkM_133 hp | exact lkM_144 hp | exact lkM_134 hp | exact lkM_130 hp | exact lkM_131 hp | exact lkM_132 hp | exact lkM_135 hp | exact lkM_136 hp | exact lkM_137 hp | exact lkM_138 hp | exact lkM_145 hp | exact lkM_146 hp | exact lkM_139 hp | exact lkM_140 hp | exact lkM_141 hp | exact lkM_142 hp | exact lkM_143 hp); rfl) rfl ?_
    refine j_icmp_ge (pc := 46) (tgt := 62) dX7_odds_46 rfl (fun zc46 => absurd zc46 (by rw [hbe]; exact nI_ge (by omega) (by omega))) (fun _ => ?_)
    refine j_iload (pc := 49) dX7_odds_49 rfl ?_
    refine j_bipush (pc := 51) dX7_odds_51 kb_10 ?_
    refine j_imul (pc := 53) dX7_odds_53 ?_
    refine j_istore (pc := 54) dX7_odds_54 (Nat.le_of_ble_eq_true rfl) rfl ?_
    refine j_iinc (pc := 56) dX7_odds_56 rfl rfl (Nat.le_of_ble_eq_true rfl) rfl ?_
    refine j_goto (pc := 59) (tgt := 40) dX7_odds_59 rfl ?_
    rw [nI_s]
    exact ih (k + 1) _ (by omega) hq

set_option maxRecDepth 20000 in
set_option maxHeartbeats 200000 in
theorem ml_its (hp : pre.length = 129) {x kk c ab be2 s : Int32} {nb : Nat} (hbe : be = nI nb) (hnb : nb ≤ 6) : ∀ (m k : Nat) (a : Int32), k + m = nb → J g mX7_odds 1 0 0 Q (W2 pre de we da bo be sg pi ru st wa kn im ik tm to tr tx tn cu sa tk nu wr it sd swt sdd sbx sfl sdi sb sst sp sr nw od bs) 120 [some (.ref 129), some (.int x), some (.int kk), some (.int c), some (.int ab), some (.int be2), some (.int s), some (.int (iter (itStep x s) m k a)), some (.int (nI nb))] [] → J g mX7_odds 1 0 0 Q (W2 pre de we da bo be sg pi ru st wa kn im ik tm to tr tx tn cu sa tk nu wr it sd swt sdd sbx sfl sdi sb sst sp sr nw od bs) 82 [some (.ref 129), some (.int x), some (.int kk), some (.int c), some (.int ab), some (.int be2), some (.int s), some (.int a), some (.int (nI k))] [] := by
  intro m
  induction m with
  | zero =>
    intro k a hk hq
    refine j_iload (pc := 82) dX7_odds_82 rfl ?_
    refine j_aload_n (pc := 84) dX7_odds_84 rfl ?_
    refine j_getf (pc := 85) dX7_odds_85 fl_X7_151 (by apply lkE; (with_reducible first | exact lkM_129 hp | exact lkM_133 hp | exact lkM_144 hp | exact lkM_134 hp | exact lkM_130 hp | exact lkM_131 hp | exact lkM_132 hp | exact lkM_135 hp | exact lkM_136 hp | exact lkM_137 hp | exact lkM_138 hp | exact lkM_145 hp | exact lkM_146 hp | exact lkM_139 hp | exact lkM_140 hp | exact lkM_141 hp | exact lkM_142 hp | exact lkM_143 hp); rfl) rfl ?_
    refine j_icmp_ge (pc := 88) (tgt := 120) dX7_odds_88 rfl (fun _ => ?_) (fun zc88 => absurd (by rw [hbe]; exact nI_le (by omega) (by omega)) zc88)
    rw [show k = nb by omega]
    exact hq
  | succ m ih =>
    intro k a hk hq
    refine j_iload (pc := 82) dX7_odds_82 rfl ?_
    refine j_aload_n (pc := 84) dX7_odds_84 rfl ?_
    refine j_getf (pc := 85) dX7_odds_85 fl_X7_151 (by apply lkE; (with_reducible first | exact lkM_129 hp | exact lkM_133 hp | exact lkM_144 hp | exact lkM_134 hp | exact lkM_130 hp | exact lkM_131 hp | exact lkM_132 hp | exact lkM_135 hp | exact lkM_136 hp | exact lkM_137 hp | exact lkM_138 hp | exact lkM_145 hp | exact lkM_146 hp | exact lkM_139 hp | exact lkM_140 hp | exact lkM_141 hp | exact lkM_142 hp | exact lkM_143 hp); rfl) rfl ?_
    refine j_icmp_ge (pc := 88) (tgt := 120) dX7_odds_88 rfl (fun zc88 => absurd zc88 (by rw [hbe]; exact nI_ge (by omega) (by omega))) (fun _ => ?_)
    refine j_iload (pc := 91) dX7_odds_91 rfl ?_
    refine j_iload (pc := 93) dX7_odds_93 rfl ?_
    refine j_iload (pc := 95) dX7_odds_95 rfl ?_
    refine j_s2 (pc := 97) dX7_odds_97 mc_X7_has ml_X7_119 sm_X7_has (by omega) (m_has) (Nat.le_of_ble_eq_true rfl) ?_
    refine j_beq (pc := 100) (tgt := 107) dX7_odds_100 rfl (fun zc100 => ?_) (fun zc100 => ?_)
    · refine j_bipush (pc := 107) dX7_odds_107 kb_10 ?_
      refine j_iload_n (pc := 109) dX7_odds_109 rfl ?_
      refine j_isub (pc := 110) dX7_odds_110 ?_
      refine j_imul (pc := 111) dX7_odds_111 ?_
      refine j_istore (pc := 112) dX7_odds_112 (Nat.le_of_ble_eq_true rfl) rfl ?_
      refine j_iinc (pc := 114) dX7_odds_114 rfl rfl (Nat.le_of_ble_eq_true rfl) rfl ?_
      refine j_goto (pc := 117) (tgt := 82) dX7_odds_117 rfl ?_
      rw [nI_s]
      refine ih (k + 1) _ (by omega) ?_
      simpa [iter, itStep, *] using hq
    · refine j_iload_n (pc := 103) dX7_odds_103 rfl ?_
      refine j_goto (pc := 104) (tgt := 111) dX7_odds_104 rfl ?_
      refine j_imul (pc := 111) dX7_odds_111 ?_
      refine j_istore (pc := 112) dX7_odds_112 (Nat.le_of_ble_eq_true rfl) rfl ?_
      refine j_iinc (pc := 114) dX7_odds_114 rfl rfl (Nat.le_of_ble_eq_true rfl) rfl ?_
      refine j_goto (pc := 117) (tgt := 82) dX7_odds_117 rfl ?_
      rw [nI_s]
      refine ih (k + 1) _ (by omega) ?_
      simpa [iter, itStep, *] using hq

set_option maxRecDepth 20000 in
set_option maxHeartbeats 200000 in
theorem ml_odds (hp : pre.length = 129) {x kk c : Int32} {nb : Nat} (hbe : be = nI nb) (hnb : nb ≤ 6) : ∀ (m k : Nat) (a : Int32), k + m = 2 ^ nb → Q (some (.int ((if c = 0 then iter (abStep x kk nb) m k a else beI nb) / gcL 1000001 (iter (abStep x kk nb) m k a) (beI nb)))) (W2 pre de we da bo be sg pi ru st wa kn im ik tm to tr tx tn cu sa tk nu wr it sd swt sdd sbx sfl sdi sb sst sp sr nw od bs) → J g mX7_odds 1 0 0 Q (W2 pre de we da bo be sg pi ru st wa kn im ik tm to tr tx tn cu sa tk nu wr it sd swt sdd sbx sfl sdi sb sst sp sr nw od bs) 65 [some (.ref 129), some (.int x), some (.int kk), some (.int c), some (.int a), some (.int (beI nb)), some (.int (nI k)), none, none] [] := by
  have two := two_le hnb
  intro m
  induction m with
  | zero =>
    intro k a hk hq
    refine j_iload (pc := 65) dX7_odds_65 rfl ?_
    refine j_iconst (pc := 67) dX7_odds_67 kc_1 ?_
    refine j_aload_n (pc := 68) dX7_odds_68 rfl ?_
    refine j_getf (pc := 69) dX7_odds_69 fl_X7_151 (by apply lkE; (with_reducible first | exact lkM_129 hp | exact lkM_133 hp | exact lkM_144 hp | exact lkM_134 hp | exact lkM_130 hp | exact lkM_131 hp | exact lkM_132 hp | exact lkM_135 hp | exact lkM_136 hp | exact lkM_137 hp | exact lkM_138 hp | exact lkM_145 hp | exact lkM_146 hp | exact lkM_139 hp | exact lkM_140 hp | exact lkM_141 hp | exact lkM_142 hp | exact lkM_143 hp); rfl) rfl ?_
    refine j_ishl (pc := 72) dX7_odds_72 ?_
    refine j_icmp_ge (pc := 73) (tgt := 146) dX7_odds_73 rfl (fun _ => ?_) (fun zc73 => absurd (by rw [hbe, shl2 hnb]; exact nI_le (by omega) (by omega)) zc73)
    refine j_iload (pc := 146) dX7_odds_146 rfl ?_
    refine j_iload (pc := 148) dX7_odds_148 rfl ?_
    refine j_iload_n (pc := 150) dX7_odds_150 rfl ?_
    refine j_s3 (pc := 151) dX7_odds_151 mc_X7_lowest ml_X7_226 sm_X7_lowest (by omega) (m_lowest (beI_pos hnb).1 (beI_pos hnb).2) (Nat.le_of_ble_eq_true rfl) ?_
    refine j_ireturn (pc := 154) dX7_odds_154 rfl ?_
    exact hq
  | succ m ih =>
    intro k a hk hq
    refine j_iload (pc := 65) dX7_odds_65 rfl ?_
    refine j_iconst (pc := 67) dX7_odds_67 kc_1 ?_
    refine j_aload_n (pc := 68) dX7_odds_68 rfl ?_
    refine j_getf (pc := 69) dX7_odds_69 fl_X7_151 (by apply lkE; (with_reducible first | exact lkM_129 hp | exact lkM_133 hp | exact lkM_144 hp | exact lkM_134 hp | exact lkM_130 hp | exact lkM_131 hp | exact lkM_132 hp | exact lkM_135 hp | exact lkM_136 hp | exact lkM_137 hp | exact lkM_138 hp | exact lkM_145 hp | exact lkM_146 hp | exact lkM_139 hp | exact lkM_140 hp | exact lkM_141 hp | exact lkM_142 hp | exact lkM_143 hp); rfl) rfl ?_
    refine j_ishl (pc := 72) dX7_odds_72 ?_
    refine j_icmp_ge (pc := 73) (tgt := 146) dX7_odds_73 rfl (fun zc73 => absurd zc73 (by rw [hbe, shl2 hnb]; exact nI_ge (by omega) (by omega))) (fun _ => ?_)
    refine j_iconst (pc := 76) dX7_odds_76 kc_1 ?_
    refine j_istore (pc := 77) dX7_odds_77 (Nat.le_of_ble_eq_true rfl) rfl ?_
    refine j_iconst (pc := 79) dX7_odds_79 kc_0 ?_
    refine j_istore (pc := 80) dX7_odds_80 (Nat.le_of_ble_eq_true rfl) rfl ?_
    refine ml_its hp hbe hnb nb 0 1 (by omega) ?_
    refine j_iload (pc := 120) dX7_odds_120 rfl ?_
    refine j_iload (pc := 122) dX7_odds_122 rfl ?_
    refine j_s1 (pc := 124) dX7_odds_124 mc_X7_bits ml_X7_202 sm_X7_bits (by omega) (m_bits) (Nat.le_of_ble_eq_true rfl) ?_
    refine j_iload_n (pc := 127) dX7_odds_127 rfl ?_
    refine j_icmp_gt (pc := 128) (tgt := 136) dX7_odds_128 rfl (fun zc128 => ?_) (fun zc128 => ?_)
    · refine j_iconst (pc := 136) dX7_odds_136 kc_0 ?_
      refine j_iadd (pc := 137) dX7_odds_137 ?_
      refine j_istore (pc := 138) dX7_odds_138 (Nat.le_of_ble_eq_true rfl) rfl ?_
      refine j_iinc (pc := 140) dX7_odds_140 rfl rfl (Nat.le_of_ble_eq_true rfl) rfl ?_
      refine j_goto (pc := 143) (tgt := 65) dX7_odds_143 rfl ?_
      rw [nI_s]
      refine j_weak (ls' := [some _, some _, some _, some _, some _, some _, some _, none, none]) ⟨rfl, rfl, rfl, rfl, rfl, rfl, rfl, trivial⟩ (ih (k + 1) _ (by omega) ?_)
      simpa [iter, abStep, itI, *] using hq
    · refine j_iload (pc := 131) dX7_odds_131 rfl ?_
      refine j_goto (pc := 133) (tgt := 137) dX7_odds_133 rfl ?_
      refine j_iadd (pc := 137) dX7_odds_137 ?_
      refine j_istore (pc := 138) dX7_odds_138 (Nat.le_of_ble_eq_true rfl) rfl ?_
      refine j_iinc (pc := 140) dX7_odds_140 rfl rfl (Nat.le_of_ble_eq_true rfl) rfl ?_
      refine j_goto (pc := 143) (tgt := 65) dX7_odds_143 rfl ?_
      rw [nI_s]
      refine j_weak (ls' := [some _, some _, some _, some _, some _, some _, some _, none, none]) ⟨rfl, rfl, rfl, rfl, rfl, rfl, rfl, trivial⟩ (ih (k + 1) _ (by omega) ?_)
      simpa [iter, abStep, itI, *] using hq

def modI (x kk c : Int32) (nb : Nat) : Int32 := (if c = 0 then abI x kk nb else beI nb) / gcL 1000001 (abI x kk nb) (beI nb)
set_option maxRecDepth 20000 in
set_option maxHeartbeats 200000 in
theorem m_odds (hp : pre.length = 129) {x kk c : Int32} {nb : Nat} (hbe : be = nI nb) (hnb : nb ≤ 6) (h1 : (jin x 0 10 && jin kk 0 6 && jin c 0 1) = false → Q (some (.int (-1))) (W2 pre de we da bo be sg pi ru st wa kn im ik tm to tr tx tn cu sa tk nu wr it sd swt sdd sbx sfl sdi sb sst sp sr nw od bs)) (h2 : jin x 0 10 = true → jin kk 0 6 = true → jin c 0 1 = true → Q (some (.int (modI x kk c nb))) (W2 pre de we da bo be sg pi ru st wa kn im ik tm to tr tx tn cu sa tk nu wr it sd swt sdd sbx sfl sdi sb sst sp sr nw od bs)) : C g 1 0 0 mX7_odds [.ref 129, .int x, .int kk, .int c] (W2 pre de we da bo be sg pi ru st wa kn im ik tm to tr tx tn cu sa tk nu wr it sd swt sdd sbx sfl sdi sb sst sp sr nw od bs) Q := by
  refine C.of (by decide +kernel) (by simp [Value.category]) (Nat.le_of_ble_eq_true rfl) ?_
  change J g mX7_odds 1 0 0 _ (W2 pre de we da bo be sg pi ru st wa kn im ik tm to tr tx tn cu sa tk nu wr it sd swt sdd sbx sfl sdi sb sst sp sr nw od bs) 0 [some (.ref 129), some (.int x), some (.int kk), some (.int c), none, none, none, none, none] []
  refine j_iload_n (pc := 0) dX7_odds_0 rfl ?_
  refine j_iconst (pc := 1) dX7_odds_1 kc_0 ?_
  refine j_bipush (pc := 2) dX7_odds_2 kb_10 ?_
  refine j_s3 (pc := 4) dX7_odds_4 mc_X7_in ml_X7_72 sm_X7_in (by omega) (c_in) (Nat.le_of_ble_eq_true rfl) ?_
  refine j_beq (pc := 7) (tgt := 29) dX7_odds_7 rfl (fun zc7 => ?_) (fun zc7 => ?_)
  · refine j_iconst (pc := 29) dX7_odds_29 kc_m1 ?_
    refine j_ireturn (pc := 30) dX7_odds_30 rfl ?_
    first
      | exact h1 (by rw [zc7, Bool.false_and, Bool.false_and])
      | exact h1 (by rw [zc17, Bool.and_false, Bool.false_and])
      | exact h1 (by rw [zc26, Bool.and_false])
  · refine j_iload_n (pc := 10) dX7_odds_10 rfl ?_
    refine j_iconst (pc := 11) dX7_odds_11 kc_0 ?_
    refine j_bipush (pc := 12) dX7_odds_12 kb_6 ?_
    refine j_s3 (pc := 14) dX7_odds_14 mc_X7_in ml_X7_72 sm_X7_in (by omega) (c_in) (Nat.le_of_ble_eq_true rfl) ?_
    refine j_beq (pc := 17) (tgt := 29) dX7_odds_17 rfl (fun zc17 => ?_) (fun zc17 => ?_)
    · refine j_iconst (pc := 29) dX7_odds_29 kc_m1 ?_
      refine j_ireturn (pc := 30) dX7_odds_30 rfl ?_
      first
        | exact h1 (by rw [zc7, Bool.false_and, Bool.false_and])
        | exact h1 (by rw [zc17, Bool.and_false, Bool.false_and])
        | exact h1 (by rw [zc26, Bool.and_false])
    · refine j_iload_n (pc := 20) dX7_odds_20 rfl ?_
      refine j_iconst (pc := 21) dX7_odds_21 kc_0 ?_
      refine j_iconst (pc := 22) dX7_odds_22 kc_1 ?_
      refine j_s3 (pc := 23) dX7_odds_23 mc_X7_in ml_X7_72 sm_X7_in (by omega) (c_in) (Nat.le_of_ble_eq_true rfl) ?_
      refine j_bne (pc := 26) (tgt := 31) dX7_odds_26 rfl (fun zc26 => ?_) (fun zc26 => ?_)
      · refine j_iconst (pc := 31) dX7_odds_31 kc_0 ?_
        refine j_istore (pc := 32) dX7_odds_32 (Nat.le_of_ble_eq_true rfl) rfl ?_
        refine j_iconst (pc := 34) dX7_odds_34 kc_1 ?_
        refine j_istore (pc := 35) dX7_odds_35 (Nat.le_of_ble_eq_true rfl) rfl ?_
        refine j_iconst (pc := 37) dX7_odds_37 kc_0 ?_
        refine j_istore (pc := 38) dX7_odds_38 (Nat.le_of_ble_eq_true rfl) rfl ?_
        have two := two_le hnb
        refine ml_below hp hbe hnb nb 0 1 (by omega) ?_
        refine j_iconst (pc := 62) dX7_odds_62 kc_0 ?_
        refine j_istore (pc := 63) dX7_odds_63 (Nat.le_of_ble_eq_true rfl) rfl ?_
        exact ml_odds hp hbe hnb (2 ^ nb) 0 0 (by omega) (h2 zc7 zc17 zc26)
      · refine j_iconst (pc := 29) dX7_odds_29 kc_m1 ?_
        refine j_ireturn (pc := 30) dX7_odds_30 rfl ?_
        first
          | exact h1 (by rw [zc7, Bool.false_and, Bool.false_and])
          | exact h1 (by rw [zc17, Bool.and_false, Bool.false_and])
          | exact h1 (by rw [zc26, Bool.and_false])

end

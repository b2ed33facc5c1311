/-! the reference: what is told, lives -/
section
variable {g : GG} {h : List AC} {Q : Option Value → List AC → Prop} {pre : List AC} {de : Int32} {we : Fn} {da : Int32} {bo : Fn} {be : Int32} {sg : Fn} {pi : Int32} {ru : Int32} {st : Fn} {wa : Fn} {kn : Int32} {im : Fn} {ik : Nat → Bool} {tm : Int32} {to : Fn} {tr : Int64} {tx : Fn} {tn : Int32} {cu : Int32} {sa : Int32} {tk : Int32} {nu : Int32} {wr : Bool} {it : Int32} {sd : Int32} {swt : Fn} {sdd : Int32} {sbx : Fn} {sfl : Fn} {sdi : Fn} {sb : Int32} {sst : Fn} {sp : Int32} {sr : Int32} {nw : Fn} {od : Fn} {bs : Fn}
theorem shl2 {n : Nat} (h : n ≤ 6) : (1 : Int32) <<< (nI n &&& 31) = nI (2 ^ n) := by
  have : n = 0 ∨ n = 1 ∨ n = 2 ∨ n = 3 ∨ n = 4 ∨ n = 5 ∨ n = 6 := by omega
  rcases this with rfl | rfl | rfl | rfl | rfl | rfl | rfl <;> decide
def soL (pi : Int32) (nw : Fn) (ld : Int32) : Fn := mvN pi (upd nw 0 0) ld
def ldS (to we : Fn) (ne : Nat) (s : Int32) (k : Nat) : Int32 := if 0 ≤ to (2 * k) + mwI we ne s then to (2 * k) + mwI we ne s else 0
def soStep (pi : Int32) (to we : Fn) (ne : Nat) (s : Int32) (k : Nat) (a : Bool × Fn) : Bool × Fn :=
  (a.1 && decide (soL pi a.2 (ldS to we ne s k) 0 = to (2 * k + 1)), soL pi a.2 (ldS to we ne s k))
def soF (pi : Int32) (to we : Fn) (ne nt : Nat) (nw : Fn) (s : Int32) : Bool × Fn := iter (soStep pi to we ne s) nt 0 (true, nw)
def cbStep (pi : Int32) (to we : Fn) (ne nt : Nat) (w : Int32) (k : Nat) (a : Int32 × Fn) : Int32 × Fn :=
  if nI k &&& w = w then (a.1 + (if (soF pi to we ne nt a.2 (nI k)).1 then 1 else 0), (soF pi to we ne nt a.2 (nI k)).2) else a
def cbF (pi : Int32) (to we st : Fn) (ne nt : Nat) (w : Int32) : Int32 × Fn := iter (cbStep pi to we ne nt w) (2 ^ ne) 0 (0, st)
def cbI (pi : Int32) (to we st : Fn) (ne nt : Nat) (w : Int32) : Int32 := (cbF pi to we st ne nt w).1
def mcaStep (pi : Int32) (to we st : Fn) (ne nt : Nat) (k : Nat) (a : Int32 × Int32) : Int32 × Int32 :=
  (a.1 ||| (if cbI pi to we st ne nt (bitI (nI k)) = cbI pi to we st ne nt 0 then bitI (nI k) else 0), a.2 ||| (if cbI pi to we st ne nt (bitI (nI k)) ≤ 0 then 0 else bitI (nI k)))
def mcaI (pi : Int32) (to we st : Fn) (ne nt : Nat) (c : Int32) : Int32 :=
  if c = 0 then cbI pi to we st ne nt 0 else if c = 2 then (iter (mcaStep pi to we st ne nt) ne 0 (0, 0)).2 else if cbI pi to we st ne nt 0 = 0 then -9 else (iter (mcaStep pi to we st ne nt) ne 0 (0, 0)).1
def ptM (n w : Int32) : Int32 := if w ≤ n - w then n - w else w
def maStep (pi : Int32) (to we st : Fn) (ne nt : Nat) (n : Int32) (k : Nat) (a : Int32 × Int32) : Int32 × Int32 :=
  if a.1 < 0 then (nI k, ptM n (cbI pi to we st ne nt (bitI (nI k)))) else if a.2 ≤ ptM n (cbI pi to we st ne nt (bitI (nI k))) then a else (nI k, ptM n (cbI pi to we st ne nt (bitI (nI k))))
def maI (pi : Int32) (to we st : Fn) (ne nt : Nat) : Int32 :=
  if cbI pi to we st ne nt 0 ≤ 1 then -9 else (iter (maStep pi to we st ne nt (cbI pi to we st ne nt 0)) ne 0 (-9, 0)).1
def mfStep (we : Fn) (ne : Nat) (s dn : Int32) (k : Nat) (a : Int32) : Int32 :=
  if nI k &&& dn = 0 then (if s < mwI we ne (nI k ||| dn) then a else if a < 0 then nI k else if mbits a ≤ mbits (nI k) then a else nI k) else a
def mfI (we st : Fn) (ne j : Nat) (s : Int32) : Int32 := iter (mfStep we ne s (st (9 + j))) (2 ^ ne) 0 (-9)
set_option maxRecDepth 20000 in
set_option maxHeartbeats 200000 in
theorem ml_isSo (hp : pre.length = 129) {s : Int32} {ne : Nat} (hde : de = nI ne) (hne : ne ≤ 6) {nt : Nat} (htm : tm = nI nt) (hnt : nt ≤ 6) : ∀ (m k : Nat) (b : Bool) (nw : Fn), k + m = nt → Q (some (.int (b2i (iter (soStep pi to we ne s) m k (b, nw)).1))) (W2 pre de we da bo be sg pi ru st wa kn im ik tm to tr tx tn cu sa tk nu wr it sd swt sdd sbx sfl sdi sb sst sp sr ((iter (soStep pi to we ne s) m k (b, nw)).2) od bs) → J g mX7_isSo 2 0 0 Q (W2 pre de we da bo be sg pi ru st wa kn im ik tm to tr tx tn cu sa tk nu wr it sd swt sdd sbx sfl sdi sb sst sp sr nw od bs) 4 [some (.ref 129), some (.int s), some (.int (b2i b)), some (.int (nI k)), none] [] := by
  intro m
  induction m with
  | zero =>
    intro k b nw hk hq
    refine j_iload_n (pc := 4) dX7_isSo_4 rfl ?_
    refine j_aload_n (pc := 5) dX7_isSo_5 rfl ?_
    refine j_getf (pc := 6) dX7_isSo_6 fl_X7_157 (by apply lkE; (with_reducible first | exact lkM_129 hp | exact lkM_133 hp | exact lkM_144 hp | exact lkM_134 hp | exact lkM_130 hp | exact lkM_131 hp | exact lkM_132 hp | exact lkM_135 hp | exact lkM_136 hp | exact lkM_137 hp | exact lkM_138 hp | exact lkM_145 hp | exact lkM_146 hp | exact lkM_139 hp | exact lkM_140 hp | exact lkM_141 hp | exact lkM_142 hp | exact lkM_143 hp); rfl) rfl ?_
    refine j_icmp_ge (pc := 9) (tgt := 85) dX7_isSo_9 rfl (fun _ => ?_) (fun zc9 => absurd (by rw [htm]; exact nI_le (by omega) (by omega)) zc9)
    refine j_iload_n (pc := 85) dX7_isSo_85 rfl ?_
    refine j_zret (pc := 86) (b := b) dX7_isSo_86 rfl rfl ?_
    exact hq
  | succ m ih =>
    intro k b nw hk hq
    refine j_iload_n (pc := 4) dX7_isSo_4 rfl ?_
    refine j_aload_n (pc := 5) dX7_isSo_5 rfl ?_
    refine j_getf (pc := 6) dX7_isSo_6 fl_X7_157 (by apply lkE; (with_reducible first | exact lkM_129 hp | exact lkM_133 hp | exact lkM_144 hp | exact lkM_134 hp | exact lkM_130 hp | exact lkM_131 hp | exact lkM_132 hp | exact lkM_135 hp | exact lkM_136 hp | exact lkM_137 hp | exact lkM_138 hp | exact lkM_145 hp | exact lkM_146 hp | exact lkM_139 hp | exact lkM_140 hp | exact lkM_141 hp | exact lkM_142 hp | exact lkM_143 hp); rfl) rfl ?_
    refine j_icmp_ge (pc := 9) (tgt := 85) dX7_isSo_9 rfl (fun zc9 => absurd zc9 (by rw [htm]; exact nI_ge (by omega) (by omega))) (fun _ => ?_)
    refine j_aload_n (pc := 12) dX7_isSo_12 rfl ?_
    refine j_getf (pc := 13) dX7_isSo_13 fl_X7_39 (by apply lkE; (with_reducible first | exact lkM_129 hp | exact lkM_133 hp | exact lkM_144 hp | exact lkM_134 hp | exact lkM_130 hp | exact lkM_131 hp | exact lkM_132 hp | exact lkM_135 hp | exact lkM_136 hp | exact lkM_137 hp | exact lkM_138 hp | exact lkM_145 hp | exact lkM_146 hp | exact lkM_139 hp | exact lkM_140 hp | exact lkM_141 hp | exact lkM_142 hp | exact lkM_143 hp); rfl) rfl ?_
    refine j_iconst (pc := 16) dX7_isSo_16 kc_2 ?_
    refine j_iload_n (pc := 17) dX7_isSo_17 rfl ?_
    refine j_imul (pc := 18) dX7_isSo_18 ?_
    refine j_ialdE (pc := 19) dX7_isSo_19 (by apply lkE; (with_reducible first | exact lkM_129 hp | exact lkM_133 hp | exact lkM_144 hp | exact lkM_134 hp | exact lkM_130 hp | exact lkM_131 hp | exact lkM_132 hp | exact lkM_135 hp | exact lkM_136 hp | exact lkM_137 hp | exact lkM_138 hp | exact lkM_145 hp | exact lkM_146 hp | exact lkM_139 hp | exact lkM_140 hp | exact lkM_141 hp | exact lkM_142 hp | exact lkM_143 hp); rfl) rfl (mul2 (by omega)) (by omega) (by decide) ?_
    refine j_aload_n (pc := 20) dX7_isSo_20 rfl ?_
    refine j_iload_n (pc := 21) dX7_isSo_21 rfl ?_
    refine j_v1 (pc := 22) (ci := 7) dX7_isSo_22 mc_X7_weightOf ml_X7_164 im_X7_weightOf se_X7_weightOf rfl rfl (by apply lkE; (with_reducible first | exact lkM_129 hp | exact lkM_133 hp | exact lkM_144 hp | exact lkM_134 hp | exact lkM_130 hp | exact lkM_131 hp | exact lkM_132 hp | exact lkM_135 hp | exact lkM_136 hp | exact lkM_137 hp | exact lkM_138 hp | exact lkM_145 hp | exact lkM_146 hp | exact lkM_139 hp | exact lkM_140 hp | exact lkM_141 hp | exact lkM_142 hp | exact lkM_143 hp); rfl) (by omega) (m_weightOf hp hde hne) (Nat.le_of_ble_eq_true rfl) ?_
    refine j_iadd (pc := 25) dX7_isSo_25 ?_
    refine j_istore (pc := 26) dX7_isSo_26 (Nat.le_of_ble_eq_true rfl) rfl ?_
    refine j_aload_n (pc := 28) dX7_isSo_28 rfl ?_
    refine j_getf (pc := 29) dX7_isSo_29 fl_X7_60 (by apply lkE; (with_reducible first | exact lkM_129 hp | exact lkM_133 hp | exact lkM_144 hp | exact lkM_134 hp | exact lkM_130 hp | exact lkM_131 hp | exact lkM_132 hp | exact lkM_135 hp | exact lkM_136 hp | exact lkM_137 hp | exact lkM_138 hp | exact lkM_145 hp | exact lkM_146 hp | exact lkM_139 hp | exact lkM_140 hp | exact lkM_141 hp | exact lkM_142 hp | exact lkM_143 hp); rfl) rfl ?_
    refine j_iconst (pc := 32) dX7_isSo_32 kc_0 ?_
    refine j_iconst (pc := 33) dX7_isSo_33 kc_0 ?_
    refine j_iastE (pc := 34) dX7_isSo_34 (by apply lkE; (with_reducible first | exact lkM_129 hp | exact lkM_133 hp | exact lkM_144 hp | exact lkM_134 hp | exact lkM_130 hp | exact lkM_131 hp | exact lkM_132 hp | exact lkM_135 hp | exact lkM_136 hp | exact lkM_137 hp | exact lkM_138 hp | exact lkM_145 hp | exact lkM_146 hp | exact lkM_139 hp | exact lkM_140 hp | exact lkM_141 hp | exact lkM_142 hp | exact lkM_143 hp); rfl) (rfl : (0 : Int32) = nI 0) (by decide) (by decide) (upM_144 hp) ?_
    refine j_aload_n (pc := 35) dX7_isSo_35 rfl ?_
    refine j_iload (pc := 36) dX7_isSo_36 rfl ?_
    refine j_if_ge (pc := 38) (tgt := 45) dX7_isSo_38 rfl (fun zc38 => ?_) (fun zc38 => ?_)
    · refine j_iload (pc := 45) dX7_isSo_45 rfl ?_
      refine j_v1n (pc := 47) (ci := 7) dX7_isSo_47 mc_X7_moves ml_X7_173 im_X7_moves se_X7_moves rfl rfl (by apply lkE; (with_reducible first | exact lkM_129 hp | exact lkM_133 hp | exact lkM_144 hp | exact lkM_134 hp | exact lkM_130 hp | exact lkM_131 hp | exact lkM_132 hp | exact lkM_135 hp | exact lkM_136 hp | exact lkM_137 hp | exact lkM_138 hp | exact lkM_145 hp | exact lkM_146 hp | exact lkM_139 hp | exact lkM_140 hp | exact lkM_141 hp | exact lkM_142 hp | exact lkM_143 hp); rfl) (by omega) (m_moves hp) (Nat.le_of_ble_eq_true rfl) ?_
      refine j_iload_n (pc := 50) dX7_isSo_50 rfl ?_
      refine j_beq (pc := 51) (tgt := 77) dX7_isSo_51 rfl (fun zc51 => ?_) (fun zc51 => ?_)
      · refine j_iconst (pc := 77) dX7_isSo_77 kc_0 ?_
        refine j_istore_n (pc := 78) dX7_isSo_78 rfl (Nat.le_of_ble_eq_true rfl) rfl ?_
        refine j_iinc (pc := 79) dX7_isSo_79 rfl rfl (Nat.le_of_ble_eq_true rfl) rfl ?_
        refine j_goto (pc := 82) (tgt := 4) dX7_isSo_82 rfl ?_
        rw [nI_s]
        first
          | refine j_weak (ls' := [some _, some _, some _, some _, none]) ⟨rfl, rfl, rfl, rfl, trivial⟩ (ih (k + 1) true _ (by omega) ?_)
          | refine j_weak (ls' := [some _, some _, some _, some _, none]) ⟨rfl, rfl, rfl, rfl, trivial⟩ (ih (k + 1) false _ (by omega) ?_)
        simpa [iter, soStep, soL, ldS, *] using hq
      · refine j_aload_n (pc := 54) dX7_isSo_54 rfl ?_
        refine j_getf (pc := 55) dX7_isSo_55 fl_X7_60 (by apply lkE; (with_reducible first | exact lkM_129 hp | exact lkM_133 hp | exact lkM_144 hp | exact lkM_134 hp | exact lkM_130 hp | exact lkM_131 hp | exact lkM_132 hp | exact lkM_135 hp | exact lkM_136 hp | exact lkM_137 hp | exact lkM_138 hp | exact lkM_145 hp | exact lkM_146 hp | exact lkM_139 hp | exact lkM_140 hp | exact lkM_141 hp | exact lkM_142 hp | exact lkM_143 hp); rfl) rfl ?_
        refine j_iconst (pc := 58) dX7_isSo_58 kc_0 ?_
        refine j_ialdE (pc := 59) dX7_isSo_59 (by apply lkE; (with_reducible first | exact lkM_129 hp | exact lkM_133 hp | exact lkM_144 hp | exact lkM_134 hp | exact lkM_130 hp | exact lkM_131 hp | exact lkM_132 hp | exact lkM_135 hp | exact lkM_136 hp | exact lkM_137 hp | exact lkM_138 hp | exact lkM_145 hp | exact lkM_146 hp | exact lkM_139 hp | exact lkM_140 hp | exact lkM_141 hp | exact lkM_142 hp | exact lkM_143 hp); rfl) rfl (rfl : (0 : Int32) = nI 0) (by decide) (by decide) ?_
        refine j_aload_n (pc := 60) dX7_isSo_60 rfl ?_
        refine j_getf (pc := 61) dX7_isSo_61 fl_X7_39 (by apply lkE; (with_reducible first | exact lkM_129 hp | exact lkM_133 hp | exact lkM_144 hp | exact lkM_134 hp | exact lkM_130 hp | exact lkM_131 hp | exact lkM_132 hp | exact lkM_135 hp | exact lkM_136 hp | exact lkM_137 hp | exact lkM_138 hp | exact lkM_145 hp | exact lkM_146 hp | exact lkM_139 hp | exact lkM_140 hp | exact lkM_141 hp | exact lkM_142 hp | exact lkM_143 hp); rfl) rfl ?_
        refine j_iconst (pc := 64) dX7_isSo_64 kc_2 ?_
        refine j_iload_n (pc := 65) dX7_isSo_65 rfl ?_
        refine j_imul (pc := 66) dX7_isSo_66 ?_
        refine j_iconst (pc := 67) dX7_isSo_67 kc_1 ?_
        refine j_iadd (pc := 68) dX7_isSo_68 ?_
        refine j_ialdE (pc := 69) dX7_isSo_69 (by apply lkE; (with_reducible first | exact lkM_129 hp | exact lkM_133 hp | exact lkM_144 hp | exact lkM_134 hp | exact lkM_130 hp | exact lkM_131 hp | exact lkM_132 hp | exact lkM_135 hp | exact lkM_136 hp | exact lkM_137 hp | exact lkM_138 hp | exact lkM_145 hp | exact lkM_146 hp | exact lkM_139 hp | exact lkM_140 hp | exact lkM_141 hp | exact lkM_142 hp | exact lkM_143 hp); rfl) rfl (show 2 * nI k + 1 = nI (2 * k + 1) by rw [mul2 (by omega), nI_s1]) (by omega) (by decide) ?_
        refine j_icmp_ne (pc := 70) (tgt := 77) dX7_isSo_70 rfl (fun zc70 => ?_) (fun zc70 => ?_)
        · refine j_iconst (pc := 77) dX7_isSo_77 kc_0 ?_
          refine j_istore_n (pc := 78) dX7_isSo_78 rfl (Nat.le_of_ble_eq_true rfl) rfl ?_
          refine j_iinc (pc := 79) dX7_isSo_79 rfl rfl (Nat.le_of_ble_eq_true rfl) rfl ?_
          refine j_goto (pc := 82) (tgt := 4) dX7_isSo_82 rfl ?_
          rw [nI_s]
          first
            | refine j_weak (ls' := [some _, some _, some _, some _, none]) ⟨rfl, rfl, rfl, rfl, trivial⟩ (ih (k + 1) true _ (by omega) ?_)
            | refine j_weak (ls' := [some _, some _, some _, some _, none]) ⟨rfl, rfl, rfl, rfl, trivial⟩ (ih (k + 1) false _ (by omega) ?_)
          simpa [iter, soStep, soL, ldS, *] using hq
        · refine j_iconst (pc := 73) dX7_isSo_73 kc_1 ?_
          refine j_goto (pc := 74) (tgt := 78) dX7_isSo_74 rfl ?_
          refine j_istore_n (pc := 78) dX7_isSo_78 rfl (Nat.le_of_ble_eq_true rfl) rfl ?_
          refine j_iinc (pc := 79) dX7_isSo_79 rfl rfl (Nat.le_of_ble_eq_true rfl) rfl ?_
          refine j_goto (pc := 82) (tgt := 4) dX7_isSo_82 rfl ?_
          rw [nI_s]
          first
            | refine j_weak (ls' := [some _, some _, some _, some _, none]) ⟨rfl, rfl, rfl, rfl, trivial⟩ (ih (k + 1) true _ (by omega) ?_)
            | refine j_weak (ls' := [some _, some _, some _, some _, none]) ⟨rfl, rfl, rfl, rfl, trivial⟩ (ih (k + 1) false _ (by omega) ?_)
          simpa [iter, soStep, soL, ldS, *] using hq
    · refine j_iconst (pc := 41) dX7_isSo_41 kc_0 ?_
      refine j_goto (pc := 42) (tgt := 47) dX7_isSo_42 rfl ?_
      refine j_v1n (pc := 47) (ci := 7) dX7_isSo_47 mc_X7_moves ml_X7_173 im_X7_moves se_X7_moves rfl rfl (by apply lkE; (with_reducible first | exact lkM_129 hp | exact lkM_133 hp | exact lkM_144 hp | exact lkM_134 hp | exact lkM_130 hp | exact lkM_131 hp | exact lkM_132 hp | exact lkM_135 hp | exact lkM_136 hp | exact lkM_137 hp | exact lkM_138 hp | exact lkM_145 hp | exact lkM_146 hp | exact lkM_139 hp | exact lkM_140 hp | exact lkM_141 hp | exact lkM_142 hp | exact lkM_143 hp); rfl) (by omega) (m_moves hp) (Nat.le_of_ble_eq_true rfl) ?_
      refine j_iload_n (pc := 50) dX7_isSo_50 rfl ?_
      refine j_beq (pc := 51) (tgt := 77) dX7_isSo_51 rfl (fun zc51 => ?_) (fun zc51 => ?_)
      · refine j_iconst (pc := 77) dX7_isSo_77 kc_0 ?_
        refine j_istore_n (pc := 78) dX7_isSo_78 rfl (Nat.le_of_ble_eq_true rfl) rfl ?_
        refine j_iinc (pc := 79) dX7_isSo_79 rfl rfl (Nat.le_of_ble_eq_true rfl) rfl ?_
        refine j_goto (pc := 82) (tgt := 4) dX7_isSo_82 rfl ?_
        rw [nI_s]
        first
          | refine j_weak (ls' := [some _, some _, some _, some _, none]) ⟨rfl, rfl, rfl, rfl, trivial⟩ (ih (k + 1) true _ (by omega) ?_)
          | refine j_weak (ls' := [some _, some _, some _, some _, none]) ⟨rfl, rfl, rfl, rfl, trivial⟩ (ih (k + 1) false _ (by omega) ?_)
        simpa [iter, soStep, soL, ldS, *] using hq
      · refine j_aload_n (pc := 54) dX7_isSo_54 rfl ?_
        refine j_getf (pc := 55) dX7_isSo_55 fl_X7_60 (by apply lkE; (with_reducible first | exact lkM_129 hp | exact lkM_133 hp | exact lkM_144 hp | exact lkM_134 hp | exact lkM_130 hp | exact lkM_131 hp | exact lkM_132 hp | exact lkM_135 hp | exact lkM_136 hp | exact lkM_137 hp | exact lkM_138 hp | exact lkM_145 hp | exact lkM_146 hp | exact lkM_139 hp | exact lkM_140 hp | exact lkM_141 hp | exact lkM_142 hp | exact lkM_143 hp); rfl) rfl ?_
        refine j_iconst (pc := 58) dX7_isSo_58 kc_0 ?_
        refine j_ialdE (pc := 59) dX7_isSo_59 (by apply lkE; (with_reducible first | exact lkM_129 hp | exact lkM_133 hp | exact lkM_144 hp | exact lkM_134 hp | exact lkM_130 hp | exact lkM_131 hp | exact lkM_132 hp | exact lkM_135 hp | exact lkM_136 hp | exact lkM_137 hp | exact lkM_138 hp | exact lkM_145 hp | exact lkM_146 hp | exact lkM_139 hp | exact lkM_140 hp | exact lkM_141 hp | exact lkM_142 hp | exact lkM_143 hp); rfl) rfl (rfl : (0 : Int32) = nI 0) (by decide) (by decide) ?_
        refine j_aload_n (pc := 60) dX7_isSo_60 rfl ?_
        refine j_getf (pc := 61) dX7_isSo_61 fl_X7_39 (by apply lkE; (with_reducible first | exact lkM_129 hp | exact lkM_133 hp | exact lkM_144 hp | exact lkM_134 hp | exact lkM_130 hp | exact lkM_131 hp | exact lkM_132 hp | exact lkM_135 hp | exact lkM_136 hp | exact lkM_137 hp | exact lkM_138 hp | exact lkM_145 hp | exact lkM_146 hp | exact lkM_139 hp | exact lkM_140 hp | exact lkM_141 hp | exact lkM_142 hp | exact lkM_143 hp); rfl) rfl ?_
        refine j_iconst (pc := 64) dX7_isSo_64 kc_2 ?_
        refine j_iload_n (pc := 65) dX7_isSo_65 rfl ?_
        refine j_imul (pc := 66) dX7_isSo_66 ?_
        refine j_iconst (pc := 67) dX7_isSo_67 kc_1 ?_
        refine j_iadd (pc := 68) dX7_isSo_68 ?_
        refine j_ialdE (pc := 69) dX7_isSo_69 (by apply lkE; (with_reducible first | exact lkM_129 hp | exact lkM_133 hp | exact lkM_144 hp | exact lkM_134 hp | exact lkM_130 hp | exact lkM_131 hp | exact lkM_132 hp | exact lkM_135 hp | exact lkM_136 hp | exact lkM_137 hp | exact lkM_138 hp | exact lkM_145 hp | exact lkM_146 hp | exact lkM_139 hp | exact lkM_140 hp | exact lkM_141 hp | exact lkM_142 hp | exact lkM_143 hp); rfl) rfl (show 2 * nI k + 1 = nI (2 * k + 1) by rw [mul2 (by omega), nI_s1]) (by omega) (by decide) ?_
        refine j_icmp_ne (pc := 70) (tgt := 77) dX7_isSo_70 rfl (fun zc70 => ?_) (fun zc70 => ?_)
        · refine j_iconst (pc := 77) dX7_isSo_77 kc_0 ?_
          refine j_istore_n (pc := 78) dX7_isSo_78 rfl (Nat.le_of_ble_eq_true rfl) rfl ?_
          refine j_iinc (pc := 79) dX7_isSo_79 rfl rfl (Nat.le_of_ble_eq_true rfl) rfl ?_
          refine j_goto (pc := 82) (tgt := 4) dX7_isSo_82 rfl ?_
          rw [nI_s]
          first
            | refine j_weak (ls' := [some _, some _, some _, some _, none]) ⟨rfl, rfl, rfl, rfl, trivial⟩ (ih (k + 1) true _ (by omega) ?_)
            | refine j_weak (ls' := [some _, some _, some _, some _, none]) ⟨rfl, rfl, rfl, rfl, trivial⟩ (ih (k + 1) false _ (by omega) ?_)
          simpa [iter, soStep, soL, ldS, *] using hq
        · refine j_iconst (pc := 73) dX7_isSo_73 kc_1 ?_
          refine j_goto (pc := 74) (tgt := 78) dX7_isSo_74 rfl ?_
          refine j_istore_n (pc := 78) dX7_isSo_78 rfl (Nat.le_of_ble_eq_true rfl) rfl ?_
          refine j_iinc (pc := 79) dX7_isSo_79 rfl rfl (Nat.le_of_ble_eq_true rfl) rfl ?_
          refine j_goto (pc := 82) (tgt := 4) dX7_isSo_82 rfl ?_
          rw [nI_s]
          first
            | refine j_weak (ls' := [some _, some _, some _, some _, none]) ⟨rfl, rfl, rfl, rfl, trivial⟩ (ih (k + 1) true _ (by omega) ?_)
            | refine j_weak (ls' := [some _, some _, some _, some _, none]) ⟨rfl, rfl, rfl, rfl, trivial⟩ (ih (k + 1) false _ (by omega) ?_)
          simpa [iter, soStep, soL, ldS, *] using hq

set_option maxRecDepth 20000 in
set_option maxHeartbeats 200000 in
theorem m_isSo (hp : pre.length = 129) {s : Int32} {ne : Nat} (hde : de = nI ne) (hne : ne ≤ 6) {nt : Nat} (htm : tm = nI nt) (hnt : nt ≤ 6) : CD g 2 mX7_isSo [.ref 129, .int s] (W2 pre de we da bo be sg pi ru st wa kn im ik tm to tr tx tn cu sa tk nu wr it sd swt sdd sbx sfl sdi sb sst sp sr nw od bs) (some (.int (b2i (soF pi to we ne nt nw s).1))) (W2 pre de we da bo be sg pi ru st wa kn im ik tm to tr tx tn cu sa tk nu wr it sd swt sdd sbx sfl sdi sb sst sp sr ((soF pi to we ne nt nw s).2) od bs) := by
  refine C.of (by decide +kernel) (by simp [Value.category]) (Nat.le_of_ble_eq_true rfl) ?_
  change J g mX7_isSo 2 0 0 _ (W2 pre de we da bo be sg pi ru st wa kn im ik tm to tr tx tn cu sa tk nu wr it sd swt sdd sbx sfl sdi sb sst sp sr nw od bs) 0 [some (.ref 129), some (.int s), none, none, none] []
  refine j_iconst (pc := 0) dX7_isSo_0 kc_1 ?_
  refine j_istore_n (pc := 1) dX7_isSo_1 rfl (Nat.le_of_ble_eq_true rfl) rfl ?_
  refine j_iconst (pc := 2) dX7_isSo_2 kc_0 ?_
  refine j_istore_n (pc := 3) dX7_isSo_3 rfl (Nat.le_of_ble_eq_true rfl) rfl ?_
  exact ml_isSo hp hde hne htm hnt nt 0 true nw (by omega) ⟨rfl, rfl⟩

set_option maxRecDepth 20000 in
set_option maxHeartbeats 200000 in
theorem ml_canBe (hp : pre.length = 129) {w : Int32} {ne : Nat} (hde : de = nI ne) (hne : ne ≤ 6) {nt : Nat} (htm : tm = nI nt) (hnt : nt ≤ 6) : ∀ (m k : Nat) (a : Int32) (nw : Fn), k + m = 2 ^ ne → Q (some (.int (iter (cbStep pi to we ne nt w) m k (a, nw)).1)) (W2 pre de we da bo be sg pi ru st wa kn im ik tm to tr tx tn cu sa tk nu wr it sd swt sdd sbx sfl sdi sb sst sp sr ((iter (cbStep pi to we ne nt w) m k (a, nw)).2) od bs) → J g mX7_canBe 3 0 0 Q (W2 pre de we da bo be sg pi ru st wa kn im ik tm to tr tx tn cu sa tk nu wr it sd swt sdd sbx sfl sdi sb sst sp sr nw od bs) 9 [some (.ref 129), some (.int w), some (.int 0), some (.int a), some (.int (nI k))] [] := by
  have two := two_le hne
  intro m
  induction m with
  | zero =>
    intro k a nw hk hq
    refine j_iload (pc := 9) dX7_canBe_9 rfl ?_
    refine j_iconst (pc := 11) dX7_canBe_11 kc_1 ?_
    refine j_aload_n (pc := 12) dX7_canBe_12 rfl ?_
    refine j_getf (pc := 13) dX7_canBe_13 fl_X7_69 (by apply lkE; (with_reducible first | exact lkM_129 hp | exact lkM_133 hp | exact lkM_144 hp | exact lkM_134 hp | exact lkM_130 hp | exact lkM_131 hp | exact lkM_132 hp | exact lkM_135 hp | exact lkM_136 hp | exact lkM_137 hp | exact lkM_138 hp | exact lkM_145 hp | exact lkM_146 hp | exact lkM_139 hp | exact lkM_140 hp | exact lkM_141 hp | exact lkM_142 hp | exact lkM_143 hp); rfl) rfl ?_
    refine j_ishl (pc := 16) dX7_canBe_16 ?_
    refine j_icmp_ge (pc := 17) (tgt := 58) dX7_canBe_17 rfl (fun _ => ?_) (fun zc17 => absurd (by rw [hde, shl2 hne]; exact nI_le (by omega) (by omega)) zc17)
    refine j_iload_n (pc := 58) dX7_canBe_58 rfl ?_
    refine j_ireturn (pc := 59) dX7_canBe_59 rfl ?_
    exact hq
  | succ m ih =>
    intro k a nw hk hq
    refine j_iload (pc := 9) dX7_canBe_9 rfl ?_
    refine j_iconst (pc := 11) dX7_canBe_11 kc_1 ?_
    refine j_aload_n (pc := 12) dX7_canBe_12 rfl ?_
    refine j_getf (pc := 13) dX7_canBe_13 fl_X7_69 (by apply lkE; (with_reducible first | exact lkM_129 hp | exact lkM_133 hp | exact lkM_144 hp | exact lkM_134 hp | exact lkM_130 hp | exact lkM_131 hp | exact lkM_132 hp | exact lkM_135 hp | exact lkM_136 hp | exact lkM_137 hp | exact lkM_138 hp | exact lkM_145 hp | exact lkM_146 hp | exact lkM_139 hp | exact lkM_140 hp | exact lkM_141 hp | exact lkM_142 hp | exact lkM_143 hp); rfl) rfl ?_
    refine j_ishl (pc := 16) dX7_canBe_16 ?_
    refine j_icmp_ge (pc := 17) (tgt := 58) dX7_canBe_17 rfl (fun zc17 => absurd zc17 (by rw [hde, shl2 hne]; exact nI_ge (by omega) (by omega))) (fun _ => ?_)
    refine j_iload_n (pc := 20) dX7_canBe_20 rfl ?_
    refine j_iload (pc := 21) dX7_canBe_21 rfl ?_
    refine j_iload_n (pc := 23) dX7_canBe_23 rfl ?_
    refine j_iand (pc := 24) dX7_canBe_24 ?_
    refine j_iload_n (pc := 25) dX7_canBe_25 rfl ?_
    refine j_icmp_ne (pc := 26) (tgt := 49) dX7_canBe_26 rfl (fun zc26 => ?_) (fun zc26 => ?_)
    · refine j_iconst (pc := 49) dX7_canBe_49 kc_0 ?_
      refine j_iadd (pc := 50) dX7_canBe_50 ?_
      refine j_istore_n (pc := 51) dX7_canBe_51 rfl (Nat.le_of_ble_eq_true rfl) rfl ?_
      refine j_iinc (pc := 52) dX7_canBe_52 rfl rfl (Nat.le_of_ble_eq_true rfl) rfl ?_
      refine j_goto (pc := 55) (tgt := 9) dX7_canBe_55 rfl ?_
      rw [nI_s]
      refine ih (k + 1) _ _ (by omega) ?_
      first
        | simpa [iter, cbStep, *] using hq
    · refine j_iload (pc := 29) dX7_canBe_29 rfl ?_
      refine j_iload_n (pc := 31) dX7_canBe_31 rfl ?_
      refine j_iand (pc := 32) dX7_canBe_32 ?_
      refine j_if_ne (pc := 33) (tgt := 49) dX7_canBe_33 rfl (fun zc33 => absurd (Int32.and_zero) zc33) (fun _ => ?_)
      refine j_aload_n (pc := 36) dX7_canBe_36 rfl ?_
      refine j_iload (pc := 37) dX7_canBe_37 rfl ?_
      refine j_v1 (pc := 39) (ci := 7) dX7_canBe_39 mc_X7_isSo ml_X7_217 im_X7_isSo se_X7_isSo rfl rfl (by apply lkE; (with_reducible first | exact lkM_129 hp | exact lkM_133 hp | exact lkM_144 hp | exact lkM_134 hp | exact lkM_130 hp | exact lkM_131 hp | exact lkM_132 hp | exact lkM_135 hp | exact lkM_136 hp | exact lkM_137 hp | exact lkM_138 hp | exact lkM_145 hp | exact lkM_146 hp | exact lkM_139 hp | exact lkM_140 hp | exact lkM_141 hp | exact lkM_142 hp | exact lkM_143 hp); rfl) (by omega) (m_isSo hp hde hne htm hnt) (Nat.le_of_ble_eq_true rfl) ?_
      refine j_beq (pc := 42) (tgt := 49) dX7_canBe_42 rfl (fun zc42 => ?_) (fun zc42 => ?_)
      · refine j_iconst (pc := 49) dX7_canBe_49 kc_0 ?_
        refine j_iadd (pc := 50) dX7_canBe_50 ?_
        refine j_istore_n (pc := 51) dX7_canBe_51 rfl (Nat.le_of_ble_eq_true rfl) rfl ?_
        refine j_iinc (pc := 52) dX7_canBe_52 rfl rfl (Nat.le_of_ble_eq_true rfl) rfl ?_
        refine j_goto (pc := 55) (tgt := 9) dX7_canBe_55 rfl ?_
        rw [nI_s]
        refine ih (k + 1) _ _ (by omega) ?_
        first
          | simpa [iter, cbStep, *] using hq
      · refine j_iconst (pc := 45) dX7_canBe_45 kc_1 ?_
        refine j_goto (pc := 46) (tgt := 50) dX7_canBe_46 rfl ?_
        refine j_iadd (pc := 50) dX7_canBe_50 ?_
        refine j_istore_n (pc := 51) dX7_canBe_51 rfl (Nat.le_of_ble_eq_true rfl) rfl ?_
        refine j_iinc (pc := 52) dX7_canBe_52 rfl rfl (Nat.le_of_ble_eq_true rfl) rfl ?_
        refine j_goto (pc := 55) (tgt := 9) dX7_canBe_55 rfl ?_
        rw [nI_s]
        refine ih (k + 1) _ _ (by omega) ?_
        first
          | simpa [iter, cbStep, *] using hq

set_option maxRecDepth 20000 in
set_option maxHeartbeats 200000 in
theorem m_canBe (hp : pre.length = 129) {w : Int32} {ne : Nat} (hde : de = nI ne) (hne : ne ≤ 6) {nt : Nat} (htm : tm = nI nt) (hnt : nt ≤ 6) : CD g 3 mX7_canBe [.ref 129, .int w, .int 0] (W2 pre de we da bo be sg pi ru st wa kn im ik tm to tr tx tn cu sa tk nu wr it sd swt sdd sbx sfl sdi sb sst sp sr nw od bs) (some (.int (cbI pi to we st ne nt w))) (W2 pre de we da bo be sg pi ru st wa kn im ik tm to tr tx tn cu sa tk nu wr it sd swt sdd sbx sfl sdi sb sst sp sr ((cbF pi to we st ne nt w).2) od bs) := by
  refine C.of (by decide +kernel) (by simp [Value.category]) (Nat.le_of_ble_eq_true rfl) ?_
  change J g mX7_canBe 3 0 0 _ (W2 pre de we da bo be sg pi ru st wa kn im ik tm to tr tx tn cu sa tk nu wr it sd swt sdd sbx sfl sdi sb sst sp sr nw od bs) 0 [some (.ref 129), some (.int w), some (.int 0), none, none] []
  refine j_aload_n (pc := 0) dX7_canBe_0 rfl ?_
  refine j_v0n (pc := 1) (ci := 7) dX7_canBe_1 mc_X7_asItIs ml_X7_176 im_X7_asItIs se_X7_asItIs rfl rfl (by apply lkE; (with_reducible first | exact lkM_129 hp | exact lkM_133 hp | exact lkM_144 hp | exact lkM_134 hp | exact lkM_130 hp | exact lkM_131 hp | exact lkM_132 hp | exact lkM_135 hp | exact lkM_136 hp | exact lkM_137 hp | exact lkM_138 hp | exact lkM_145 hp | exact lkM_146 hp | exact lkM_139 hp | exact lkM_140 hp | exact lkM_141 hp | exact lkM_142 hp | exact lkM_143 hp); rfl) (by omega) (m_asItIs hp) (Nat.le_of_ble_eq_true rfl) ?_
  refine j_iconst (pc := 4) dX7_canBe_4 kc_0 ?_
  refine j_istore_n (pc := 5) dX7_canBe_5 rfl (Nat.le_of_ble_eq_true rfl) rfl ?_
  refine j_iconst (pc := 6) dX7_canBe_6 kc_0 ?_
  refine j_istore (pc := 7) dX7_canBe_7 (Nat.le_of_ble_eq_true rfl) rfl ?_
  exact ml_canBe hp hde hne htm hnt (2 ^ ne) 0 0 st (by omega) ⟨rfl, rfl⟩

set_option maxRecDepth 20000 in
set_option maxHeartbeats 200000 in
theorem ml_can (hp : pre.length = 129) {c : Int32} {ne : Nat} (hde : de = nI ne) (hne : ne ≤ 6) {nt : Nat} (htm : tm = nI nt) (hnt : nt ≤ 6) : ∀ (m k : Nat) (a b : Int32) (nw : Fn), k + m = ne → (∀ nw2 : Fn, J g mX7_can 4 0 0 Q (W2 pre de we da bo be sg pi ru st wa kn im ik tm to tr tx tn cu sa tk nu wr it sd swt sdd sbx sfl sdi sb sst sp sr (nw2) od bs) 93 [some (.ref 129), some (.int c), some (.int (cbI pi to we st ne nt 0)), some (.int (iter (mcaStep pi to we st ne nt) m k (a, b)).1), some (.int (iter (mcaStep pi to we st ne nt) m k (a, b)).2), some (.int (nI ne)), none] []) → J g mX7_can 4 0 0 Q (W2 pre de we da bo be sg pi ru st wa kn im ik tm to tr tx tn cu sa tk nu wr it sd swt sdd sbx sfl sdi sb sst sp sr nw od bs) 32 [some (.ref 129), some (.int c), some (.int (cbI pi to we st ne nt 0)), some (.int a), some (.int b), some (.int (nI k)), none] [] := by
  intro m
  induction m with
  | zero =>
    intro k a b nw hk hq
    refine j_iload (pc := 32) dX7_can_32 rfl ?_
    refine j_aload_n (pc := 34) dX7_can_34 rfl ?_
    refine j_getf (pc := 35) dX7_can_35 fl_X7_69 (by apply lkE; (with_reducible first | exact lkM_129 hp | exact lkM_133 hp | exact lkM_144 hp | exact lkM_134 hp | exact lkM_130 hp | exact lkM_131 hp | exact lkM_132 hp | exact lkM_135 hp | exact lkM_136 hp | exact lkM_137 hp | exact lkM_138 hp | exact lkM_145 hp | exact lkM_146 hp | exact lkM_139 hp | exact lkM_140 hp | exact lkM_141 hp | exact lkM_142 hp | exact lkM_143 hp); rfl) rfl ?_
    refine j_icmp_ge (pc := 38) (tgt := 93) dX7_can_38 rfl (fun _ => ?_) (fun zc38 => absurd (by rw [hde]; exact nI_le (by omega) (by omega)) zc38)
    rw [show k = ne by omega]
    exact hq _
  | succ m ih =>
    intro k a b nw hk hq
    refine j_iload (pc := 32) dX7_can_32 rfl ?_
    refine j_aload_n (pc := 34) dX7_can_34 rfl ?_
    refine j_getf (pc := 35) dX7_can_35 fl_X7_69 (by apply lkE; (with_reducible first | exact lkM_129 hp | exact lkM_133 hp | exact lkM_144 hp | exact lkM_134 hp | exact lkM_130 hp | exact lkM_131 hp | exact lkM_132 hp | exact lkM_135 hp | exact lkM_136 hp | exact lkM_137 hp | exact lkM_138 hp | exact lkM_145 hp | exact lkM_146 hp | exact lkM_139 hp | exact lkM_140 hp | exact lkM_141 hp | exact lkM_142 hp | exact lkM_143 hp); rfl) rfl ?_
    refine j_icmp_ge (pc := 38) (tgt := 93) dX7_can_38 rfl (fun zc38 => absurd zc38 (by rw [hde]; exact nI_ge (by omega) (by omega))) (fun _ => ?_)
    refine j_aload_n (pc := 41) dX7_can_41 rfl ?_
    refine j_iconst (pc := 42) dX7_can_42 kc_1 ?_
    refine j_iload (pc := 43) dX7_can_43 rfl ?_
    refine j_ishl (pc := 45) dX7_can_45 ?_
    rw [show (1 : Int32) <<< (nI k &&& 31) = bitI (nI k) from rfl]
    refine j_iconst (pc := 46) dX7_can_46 kc_0 ?_
    refine j_v2 (pc := 47) (ci := 7) dX7_can_47 mc_X7_canBe ml_X7_220 im_X7_canBe se_X7_canBe rfl rfl (by apply lkE; (with_reducible first | exact lkM_129 hp | exact lkM_133 hp | exact lkM_144 hp | exact lkM_134 hp | exact lkM_130 hp | exact lkM_131 hp | exact lkM_132 hp | exact lkM_135 hp | exact lkM_136 hp | exact lkM_137 hp | exact lkM_138 hp | exact lkM_145 hp | exact lkM_146 hp | exact lkM_139 hp | exact lkM_140 hp | exact lkM_141 hp | exact lkM_142 hp | exact lkM_143 hp); rfl) (by omega) (m_canBe hp hde hne htm hnt) (Nat.le_of_ble_eq_true rfl) ?_
    refine j_istore (pc := 50) dX7_can_50 (Nat.le_of_ble_eq_true rfl) rfl ?_
    refine j_iload_n (pc := 52) dX7_can_52 rfl ?_
    refine j_iload (pc := 53) dX7_can_53 rfl ?_
    refine j_iload_n (pc := 55) dX7_can_55 rfl ?_
    refine j_icmp_ne (pc := 56) (tgt := 66) dX7_can_56 rfl (fun zc56 => ?_) (fun zc56 => ?_)
    · refine j_iconst (pc := 66) dX7_can_66 kc_0 ?_
      refine j_ior (pc := 67) dX7_can_67 ?_
      refine j_istore_n (pc := 68) dX7_can_68 rfl (Nat.le_of_ble_eq_true rfl) rfl ?_
      refine j_iload (pc := 69) dX7_can_69 rfl ?_
      refine j_iload (pc := 71) dX7_can_71 rfl ?_
      refine j_if_le (pc := 73) (tgt := 83) dX7_can_73 rfl (fun zc73 => ?_) (fun zc73 => ?_)
      · refine j_iconst (pc := 83) dX7_can_83 kc_0 ?_
        refine j_ior (pc := 84) dX7_can_84 ?_
        refine j_istore (pc := 85) dX7_can_85 (Nat.le_of_ble_eq_true rfl) rfl ?_
        refine j_iinc (pc := 87) dX7_can_87 rfl rfl (Nat.le_of_ble_eq_true rfl) rfl ?_
        refine j_goto (pc := 90) (tgt := 32) dX7_can_90 rfl ?_
        rw [nI_s]
        refine j_weak (ls' := [some _, some _, some _, some _, some _, some _, none]) ⟨rfl, rfl, rfl, rfl, rfl, rfl, trivial⟩ (ih (k + 1) _ _ _ (by omega) ?_)
        intro nw2
        have z := hq nw2
        rw [show iter (mcaStep pi to we st ne nt) (m + 1) k (a, b) = iter (mcaStep pi to we st ne nt) m (k + 1) (mcaStep pi to we st ne nt k (a, b)) from rfl] at z
        first
          | (rw [show mcaStep pi to we st ne nt k (a, b) = (a ||| bitI (nI k), b ||| bitI (nI k)) from by unfold mcaStep; rw [if_pos zc56, if_neg zc73]] at z; exact z)
          | (rw [show mcaStep pi to we st ne nt k (a, b) = (a ||| bitI (nI k), b ||| 0) from by unfold mcaStep; rw [if_pos zc56, if_pos zc73]] at z; exact z)
          | (rw [show mcaStep pi to we st ne nt k (a, b) = (a ||| 0, b ||| bitI (nI k)) from by unfold mcaStep; rw [if_neg zc56, if_neg zc73]] at z; exact z)
          | (rw [show mcaStep pi to we st ne nt k (a, b) = (a ||| 0, b ||| 0) from by unfold mcaStep; rw [if_neg zc56, if_pos zc73]] at z; exact z)
      · refine j_iconst (pc := 76) dX7_can_76 kc_1 ?_
        refine j_iload (pc := 77) dX7_can_77 rfl ?_
        refine j_ishl (pc := 79) dX7_can_79 ?_
        rw [show (1 : Int32) <<< (nI k &&& 31) = bitI (nI k) from rfl]
        refine j_goto (pc := 80) (tgt := 84) dX7_can_80 rfl ?_
        refine j_ior (pc := 84) dX7_can_84 ?_
        refine j_istore (pc := 85) dX7_can_85 (Nat.le_of_ble_eq_true rfl) rfl ?_
        refine j_iinc (pc := 87) dX7_can_87 rfl rfl (Nat.le_of_ble_eq_true rfl) rfl ?_
        refine j_goto (pc := 90) (tgt := 32) dX7_can_90 rfl ?_
        rw [nI_s]
        refine j_weak (ls' := [some _, some _, some _, some _, some _, some _, none]) ⟨rfl, rfl, rfl, rfl, rfl, rfl, trivial⟩ (ih (k + 1) _ _ _ (by omega) ?_)
        intro nw2
        have z := hq nw2
        rw [show iter (mcaStep pi to we st ne nt) (m + 1) k (a, b) = iter (mcaStep pi to we st ne nt) m (k + 1) (mcaStep pi to we st ne nt k (a, b)) from rfl] at z
        first
          | (rw [show mcaStep pi to we st ne nt k (a, b) = (a ||| bitI (nI k), b ||| bitI (nI k)) from by unfold mcaStep; rw [if_pos zc56, if_neg zc73]] at z; exact z)
          | (rw [show mcaStep pi to we st ne nt k (a, b) = (a ||| bitI (nI k), b ||| 0) from by unfold mcaStep; rw [if_pos zc56, if_pos zc73]] at z; exact z)
          | (rw [show mcaStep pi to we st ne nt k (a, b) = (a ||| 0, b ||| bitI (nI k)) from by unfold mcaStep; rw [if_neg zc56, if_neg zc73]] at z; exact z)
          | (rw [show mcaStep pi to we st ne nt k (a, b) = (a ||| 0, b ||| 0) from by unfold mcaStep; rw [if_neg zc56, if_pos zc73]] at z; exact z)
    · refine j_iconst (pc := 59) dX7_can_59 kc_1 ?_
      refine j_iload (pc := 60) dX7_can_60 rfl ?_
      refine j_ishl (pc := 62) dX7_can_62 ?_
      rw [show (1 : Int32) <<< (nI k &&& 31) = bitI (nI k) from rfl]
      refine j_goto (pc := 63) (tgt := 67) dX7_can_63 rfl ?_
      refine j_ior (pc := 67) dX7_can_67 ?_
      refine j_istore_n (pc := 68) dX7_can_68 rfl (Nat.le_of_ble_eq_true rfl) rfl ?_
      refine j_iload (pc := 69) dX7_can_69 rfl ?_
      refine j_iload (pc := 71) dX7_can_71 rfl ?_
      refine j_if_le (pc := 73) (tgt := 83) dX7_can_73 rfl (fun zc73 => ?_) (fun zc73 => ?_)
      · refine j_iconst (pc := 83) dX7_can_83 kc_0 ?_
        refine j_ior (pc := 84) dX7_can_84 ?_
        refine j_istore (pc := 85) dX7_can_85 (Nat.le_of_ble_eq_true rfl) rfl ?_
        refine j_iinc (pc := 87) dX7_can_87 rfl rfl (Nat.le_of_ble_eq_true rfl) rfl ?_
        refine j_goto (pc := 90) (tgt := 32) dX7_can_90 rfl ?_
        rw [nI_s]
        refine j_weak (ls' := [some _, some _, some _, some _, some _, some _, none]) ⟨rfl, rfl, rfl, rfl, rfl, rfl, trivial⟩ (ih (k + 1) _ _ _ (by omega) ?_)
        intro nw2
        have z := hq nw2
        rw [show iter (mcaStep pi to we st ne nt) (m + 1) k (a, b) = iter (mcaStep pi to we st ne nt) m (k + 1) (mcaStep pi to we st ne nt k (a, b)) from rfl] at z
        first
          | (rw [show mcaStep pi to we st ne nt k (a, b) = (a ||| bitI (nI k), b ||| bitI (nI k)) from by unfold mcaStep; rw [if_pos zc56, if_neg zc73]] at z; exact z)
          | (rw [show mcaStep pi to we st ne nt k (a, b) = (a ||| bitI (nI k), b ||| 0) from by unfold mcaStep; rw [if_pos zc56, if_pos zc73]] at z; exact z)
          | (rw [show mcaStep pi to we st ne nt k (a, b) = (a ||| 0, b ||| bitI (nI k)) from by unfold mcaStep; rw [if_neg zc56, if_neg zc73]] at z; exact z)
          | (rw [show mcaStep pi to we st ne nt k (a, b) = (a ||| 0, b ||| 0) from by unfold mcaStep; rw [if_neg zc56, if_pos zc73]] at z; exact z)
      · refine j_iconst (pc := 76) dX7_can_76 kc_1 ?_
        refine j_iload (pc := 77) dX7_can_77 rfl ?_
        refine j_ishl (pc := 79) dX7_can_79 ?_
        rw [show (1 : Int32) <<< (nI k &&& 31) = bitI (nI k) from rfl]
        refine j_goto (pc := 80) (tgt := 84) dX7_can_80 rfl ?_
        refine j_ior (pc := 84) dX7_can_84 ?_
        refine j_istore (pc := 85) dX7_can_85 (Nat.le_of_ble_eq_true rfl) rfl ?_
        refine j_iinc (pc := 87) dX7_can_87 rfl rfl (Nat.le_of_ble_eq_true rfl) rfl ?_
        refine j_goto (pc := 90) (tgt := 32) dX7_can_90 rfl ?_
        rw [nI_s]
        refine j_weak (ls' := [some _, some _, some _, some _, some _, some _, none]) ⟨rfl, rfl, rfl, rfl, rfl, rfl, trivial⟩ (ih (k + 1) _ _ _ (by omega) ?_)
        intro nw2
        have z := hq nw2
        rw [show iter (mcaStep pi to we st ne nt) (m + 1) k (a, b) = iter (mcaStep pi to we st ne nt) m (k + 1) (mcaStep pi to we st ne nt k (a, b)) from rfl] at z
        first
          | (rw [show mcaStep pi to we st ne nt k (a, b) = (a ||| bitI (nI k), b ||| bitI (nI k)) from by unfold mcaStep; rw [if_pos zc56, if_neg zc73]] at z; exact z)
          | (rw [show mcaStep pi to we st ne nt k (a, b) = (a ||| bitI (nI k), b ||| 0) from by unfold mcaStep; rw [if_pos zc56, if_pos zc73]] at z; exact z)
          | (rw [show mcaStep pi to we st ne nt k (a, b) = (a ||| 0, b ||| bitI (nI k)) from by unfold mcaStep; rw [if_neg zc56, if_neg zc73]] at z; exact z)
          | (rw [show mcaStep pi to we st ne nt k (a, b) = (a ||| 0, b ||| 0) from by unfold mcaStep; rw [if_neg zc56, if_pos zc73]] at z; exact z)

set_option maxRecDepth 20000 in
set_option maxHeartbeats 200000 in
theorem m_can (hp : pre.length = 129) {c : Int32} {ne : Nat} (hde : de = nI ne) (hne : ne ≤ 6) {nt : Nat} (htm : tm = nI nt) (hnt : nt ≤ 6) (h1 : jin c 0 2 = false → Q (some (.int (-1))) (W2 pre de we da bo be sg pi ru st wa kn im ik tm to tr tx tn cu sa tk nu wr it sd swt sdd sbx sfl sdi sb sst sp sr nw od bs)) (h2 : ∀ nw2 : Fn, jin c 0 2 = true → Q (some (.int (mcaI pi to we st ne nt c))) (W2 pre de we da bo be sg pi ru st wa kn im ik tm to tr tx tn cu sa tk nu wr it sd swt sdd sbx sfl sdi sb sst sp sr (nw2) od bs)) : C g 4 0 0 mX7_can [.ref 129, .int c] (W2 pre de we da bo be sg pi ru st wa kn im ik tm to tr tx tn cu sa tk nu wr it sd swt sdd sbx sfl sdi sb sst sp sr nw od bs) Q := by
  refine C.of (by decide +kernel) (by simp [Value.category]) (Nat.le_of_ble_eq_true rfl) ?_
  change J g mX7_can 4 0 0 _ (W2 pre de we da bo be sg pi ru st wa kn im ik tm to tr tx tn cu sa tk nu wr it sd swt sdd sbx sfl sdi sb sst sp sr nw od bs) 0 [some (.ref 129), some (.int c), none, none, none, none, none] []
  refine j_iload_n (pc := 0) dX7_can_0 rfl ?_
  refine j_iconst (pc := 1) dX7_can_1 kc_0 ?_
  refine j_iconst (pc := 2) dX7_can_2 kc_2 ?_
  refine j_s3 (pc := 3) dX7_can_3 mc_X7_in ml_X7_72 sm_X7_in (by omega) (c_in) (Nat.le_of_ble_eq_true rfl) ?_
  refine j_bne (pc := 6) (tgt := 11) dX7_can_6 rfl (fun zc6 => ?_) (fun zc6 => ?_)
  · refine j_aload_n (pc := 11) dX7_can_11 rfl ?_
    refine j_iconst (pc := 12) dX7_can_12 kc_0 ?_
    refine j_iconst (pc := 13) dX7_can_13 kc_0 ?_
    refine j_v2 (pc := 14) (ci := 7) dX7_can_14 mc_X7_canBe ml_X7_220 im_X7_canBe se_X7_canBe rfl rfl (by apply lkE; (with_reducible first | exact lkM_129 hp | exact lkM_133 hp | exact lkM_144 hp | exact lkM_134 hp | exact lkM_130 hp | exact lkM_131 hp | exact lkM_132 hp | exact lkM_135 hp | exact lkM_136 hp | exact lkM_137 hp | exact lkM_138 hp | exact lkM_145 hp | exact lkM_146 hp | exact lkM_139 hp | exact lkM_140 hp | exact lkM_141 hp | exact lkM_142 hp | exact lkM_143 hp); rfl) (by omega) (m_canBe hp hde hne htm hnt) (Nat.le_of_ble_eq_true rfl) ?_
    refine j_istore_n (pc := 17) dX7_can_17 rfl (Nat.le_of_ble_eq_true rfl) rfl ?_
    refine j_iload_n (pc := 18) dX7_can_18 rfl ?_
    refine j_if_ne (pc := 19) (tgt := 24) dX7_can_19 rfl (fun zc19 => ?_) (fun zc19 => ?_)
    · refine j_iconst (pc := 24) dX7_can_24 kc_0 ?_
      refine j_istore_n (pc := 25) dX7_can_25 rfl (Nat.le_of_ble_eq_true rfl) rfl ?_
      refine j_iconst (pc := 26) dX7_can_26 kc_0 ?_
      refine j_istore (pc := 27) dX7_can_27 (Nat.le_of_ble_eq_true rfl) rfl ?_
      refine j_iconst (pc := 29) dX7_can_29 kc_0 ?_
      refine j_istore (pc := 30) dX7_can_30 (Nat.le_of_ble_eq_true rfl) rfl ?_
      refine ml_can hp hde hne htm hnt ne 0 0 0 _ (by omega) ?_
      intro nw2
      have z := h2 nw2 zc6
      refine j_iload_n (pc := 93) dX7_can_93 rfl ?_
      refine j_iconst (pc := 94) dX7_can_94 kc_2 ?_
      refine j_icmp_ne (pc := 95) (tgt := 103) dX7_can_95 rfl (fun zc95 => ?_) (fun zc95 => ?_)
      · refine j_iload_n (pc := 103) dX7_can_103 rfl ?_
        refine j_if_ne (pc := 104) (tgt := 112) dX7_can_104 rfl (fun zc104 => ?_) (fun zc104 => ?_)
        · refine j_iload_n (pc := 112) dX7_can_112 rfl ?_
          refine j_ireturn (pc := 113) dX7_can_113 rfl ?_
          simpa [mcaI, *] using z
        · refine j_bipush (pc := 107) dX7_can_107 kb_m9 ?_
          refine j_goto (pc := 109) (tgt := 113) dX7_can_109 rfl ?_
          refine j_ireturn (pc := 113) dX7_can_113 rfl ?_
          simpa [mcaI, *] using z
      · refine j_iload (pc := 98) dX7_can_98 rfl ?_
        refine j_goto (pc := 100) (tgt := 113) dX7_can_100 rfl ?_
        refine j_ireturn (pc := 113) dX7_can_113 rfl ?_
        simpa [mcaI, *] using z
    · refine j_iload_n (pc := 22) dX7_can_22 rfl ?_
      refine j_ireturn (pc := 23) dX7_can_23 rfl ?_
      have z := h2 (cbF pi to we st ne nt 0).2 zc6
      rw [mcaI, if_pos zc19] at z
      exact z
  · refine j_iconst (pc := 9) dX7_can_9 kc_m1 ?_
    refine j_ireturn (pc := 10) dX7_can_10 rfl ?_
    exact h1 zc6

set_option maxRecDepth 20000 in
set_option maxHeartbeats 200000 in
theorem ml_ask (hp : pre.length = 129) {ne : Nat} (hde : de = nI ne) (hne : ne ≤ 6) {nt : Nat} (htm : tm = nI nt) (hnt : nt ≤ 6) (h1 : ¬ (cbI pi to we st ne nt 0) ≤ 1) : ∀ (m k : Nat) (a b : Int32) (nw : Fn), k + m = ne → (∀ nw2 : Fn, Q (some (.int (iter (maStep pi to we st ne nt (cbI pi to we st ne nt 0)) m k (a, b)).1)) (W2 pre de we da bo be sg pi ru st wa kn im ik tm to tr tx tn cu sa tk nu wr it sd swt sdd sbx sfl sdi sb sst sp sr (nw2) od bs)) → J g mX7_ask 4 0 0 Q (W2 pre de we da bo be sg pi ru st wa kn im ik tm to tr tx tn cu sa tk nu wr it sd swt sdd sbx sfl sdi sb sst sp sr nw od bs) 15 [some (.ref 129), some (.int (cbI pi to we st ne nt 0)), some (.int a), some (.int b), some (.int (nI k)), none, none, none] [] := by
  intro m
  induction m with
  | zero =>
    intro k a b nw hk hq
    refine j_iload (pc := 15) dX7_ask_15 rfl ?_
    refine j_aload_n (pc := 17) dX7_ask_17 rfl ?_
    refine j_getf (pc := 18) dX7_ask_18 fl_X7_69 (by apply lkE; (with_reducible first | exact lkM_129 hp | exact lkM_133 hp | exact lkM_144 hp | exact lkM_134 hp | exact lkM_130 hp | exact lkM_131 hp | exact lkM_132 hp | exact lkM_135 hp | exact lkM_136 hp | exact lkM_137 hp | exact lkM_138 hp | exact lkM_145 hp | exact lkM_146 hp | exact lkM_139 hp | exact lkM_140 hp | exact lkM_141 hp | exact lkM_142 hp | exact lkM_143 hp); rfl) rfl ?_
    refine j_icmp_ge (pc := 21) (tgt := 107) dX7_ask_21 rfl (fun _ => ?_) (fun zc21 => absurd (by rw [hde]; exact nI_le (by omega) (by omega)) zc21)
    refine j_iload_n (pc := 107) dX7_ask_107 rfl ?_
    refine j_ireturn (pc := 108) dX7_ask_108 rfl ?_
    exact hq _
  | succ m ih =>
    intro k a b nw hk hq
    refine j_iload (pc := 15) dX7_ask_15 rfl ?_
    refine j_aload_n (pc := 17) dX7_ask_17 rfl ?_
    refine j_getf (pc := 18) dX7_ask_18 fl_X7_69 (by apply lkE; (with_reducible first | exact lkM_129 hp | exact lkM_133 hp | exact lkM_144 hp | exact lkM_134 hp | exact lkM_130 hp | exact lkM_131 hp | exact lkM_132 hp | exact lkM_135 hp | exact lkM_136 hp | exact lkM_137 hp | exact lkM_138 hp | exact lkM_145 hp | exact lkM_146 hp | exact lkM_139 hp | exact lkM_140 hp | exact lkM_141 hp | exact lkM_142 hp | exact lkM_143 hp); rfl) rfl ?_
    refine j_icmp_ge (pc := 21) (tgt := 107) dX7_ask_21 rfl (fun zc21 => absurd zc21 (by rw [hde]; exact nI_ge (by omega) (by omega))) (fun _ => ?_)
    refine j_iload_n (pc := 24) dX7_ask_24 rfl ?_
    refine j_iconst (pc := 25) dX7_ask_25 kc_1 ?_
    refine j_icmp_le (pc := 26) (tgt := 107) dX7_ask_26 rfl (fun zc26 => absurd zc26 h1) (fun _ => ?_)
    refine j_aload_n (pc := 29) dX7_ask_29 rfl ?_
    refine j_iconst (pc := 30) dX7_ask_30 kc_1 ?_
    refine j_iload (pc := 31) dX7_ask_31 rfl ?_
    refine j_ishl (pc := 33) dX7_ask_33 ?_
    rw [show (1 : Int32) <<< (nI k &&& 31) = bitI (nI k) from rfl]
    refine j_iconst (pc := 34) dX7_ask_34 kc_0 ?_
    refine j_v2 (pc := 35) (ci := 7) dX7_ask_35 mc_X7_canBe ml_X7_220 im_X7_canBe se_X7_canBe rfl rfl (by apply lkE; (with_reducible first | exact lkM_129 hp | exact lkM_133 hp | exact lkM_144 hp | exact lkM_134 hp | exact lkM_130 hp | exact lkM_131 hp | exact lkM_132 hp | exact lkM_135 hp | exact lkM_136 hp | exact lkM_137 hp | exact lkM_138 hp | exact lkM_145 hp | exact lkM_146 hp | exact lkM_139 hp | exact lkM_140 hp | exact lkM_141 hp | exact lkM_142 hp | exact lkM_143 hp); rfl) (by omega) (m_canBe hp hde hne htm hnt) (Nat.le_of_ble_eq_true rfl) ?_
    refine j_istore (pc := 38) dX7_ask_38 (Nat.le_of_ble_eq_true rfl) rfl ?_
    refine j_iload (pc := 40) dX7_ask_40 rfl ?_
    refine j_iload_n (pc := 42) dX7_ask_42 rfl ?_
    refine j_iload (pc := 43) dX7_ask_43 rfl ?_
    refine j_isub (pc := 45) dX7_ask_45 ?_
    refine j_icmp_le (pc := 46) (tgt := 54) dX7_ask_46 rfl (fun zc46 => ?_) (fun zc46 => ?_)
    · refine j_iload_n (pc := 54) dX7_ask_54 rfl ?_
      refine j_iload (pc := 55) dX7_ask_55 rfl ?_
      refine j_isub (pc := 57) dX7_ask_57 ?_
      refine j_istore (pc := 58) dX7_ask_58 (Nat.le_of_ble_eq_true rfl) rfl ?_
      refine j_iload_n (pc := 60) dX7_ask_60 rfl ?_
      refine j_if_lt (pc := 61) (tgt := 70) dX7_ask_61 rfl (fun zc61 => ?_) (fun zc61 => ?_)
      · refine j_iconst (pc := 70) dX7_ask_70 kc_1 ?_
        refine j_goto (pc := 71) (tgt := 75) dX7_ask_71 rfl ?_
        refine j_istore (pc := 75) dX7_ask_75 (Nat.le_of_ble_eq_true rfl) rfl ?_
        refine j_iload (pc := 77) dX7_ask_77 rfl ?_
        refine j_if_eq (pc := 79) (tgt := 87) dX7_ask_79 rfl (fun zc79 => absurd zc79 (show ¬ (1 : Int32) = 0 by decide)) (fun _ => ?_)
        refine j_iload (pc := 82) dX7_ask_82 rfl ?_
        refine j_goto (pc := 84) (tgt := 88) dX7_ask_84 rfl ?_
        refine j_istore_n (pc := 88) dX7_ask_88 rfl (Nat.le_of_ble_eq_true rfl) rfl ?_
        refine j_iload (pc := 89) dX7_ask_89 rfl ?_
        refine j_if_eq (pc := 91) (tgt := 99) dX7_ask_91 rfl (fun zc91 => absurd zc91 (show ¬ (1 : Int32) = 0 by decide)) (fun _ => ?_)
        refine j_iload (pc := 94) dX7_ask_94 rfl ?_
        refine j_goto (pc := 96) (tgt := 100) dX7_ask_96 rfl ?_
        refine j_istore_n (pc := 100) dX7_ask_100 rfl (Nat.le_of_ble_eq_true rfl) rfl ?_
        refine j_iinc (pc := 101) dX7_ask_101 rfl rfl (Nat.le_of_ble_eq_true rfl) rfl ?_
        refine j_goto (pc := 104) (tgt := 15) dX7_ask_104 rfl ?_
        rw [nI_s]
        refine j_weak (ls' := [some _, some _, some _, some _, some _, none, none, none]) ⟨rfl, rfl, rfl, rfl, rfl, trivial⟩ (ih (k + 1) _ _ _ (by omega) ?_)
        intro nw2
        have z := hq nw2
        simpa [iter, maStep, ptM, *] using z
      · refine j_iload (pc := 64) dX7_ask_64 rfl ?_
        refine j_iload_n (pc := 66) dX7_ask_66 rfl ?_
        refine j_icmp_ge (pc := 67) (tgt := 74) dX7_ask_67 rfl (fun zc67 => ?_) (fun zc67 => ?_)
        · refine j_iconst (pc := 74) dX7_ask_74 kc_0 ?_
          refine j_istore (pc := 75) dX7_ask_75 (Nat.le_of_ble_eq_true rfl) rfl ?_
          refine j_iload (pc := 77) dX7_ask_77 rfl ?_
          refine j_if_eq (pc := 79) (tgt := 87) dX7_ask_79 rfl (fun _ => ?_) (fun zc79 => absurd (show (0 : Int32) = 0 by decide) zc79)
          refine j_iload_n (pc := 87) dX7_ask_87 rfl ?_
          refine j_istore_n (pc := 88) dX7_ask_88 rfl (Nat.le_of_ble_eq_true rfl) rfl ?_
          refine j_iload (pc := 89) dX7_ask_89 rfl ?_
          refine j_if_eq (pc := 91) (tgt := 99) dX7_ask_91 rfl (fun _ => ?_) (fun zc91 => absurd (show (0 : Int32) = 0 by decide) zc91)
          refine j_iload_n (pc := 99) dX7_ask_99 rfl ?_
          refine j_istore_n (pc := 100) dX7_ask_100 rfl (Nat.le_of_ble_eq_true rfl) rfl ?_
          refine j_iinc (pc := 101) dX7_ask_101 rfl rfl (Nat.le_of_ble_eq_true rfl) rfl ?_
          refine j_goto (pc := 104) (tgt := 15) dX7_ask_104 rfl ?_
          rw [nI_s]
          refine j_weak (ls' := [some _, some _, some _, some _, some _, none, none, none]) ⟨rfl, rfl, rfl, rfl, rfl, trivial⟩ (ih (k + 1) _ _ _ (by omega) ?_)
          intro nw2
          have z := hq nw2
          simpa [iter, maStep, ptM, *] using z
        · refine j_iconst (pc := 70) dX7_ask_70 kc_1 ?_
          refine j_goto (pc := 71) (tgt := 75) dX7_ask_71 rfl ?_
          refine j_istore (pc := 75) dX7_ask_75 (Nat.le_of_ble_eq_true rfl) rfl ?_
          refine j_iload (pc := 77) dX7_ask_77 rfl ?_
          refine j_if_eq (pc := 79) (tgt := 87) dX7_ask_79 rfl (fun zc79 => absurd zc79 (show ¬ (1 : Int32) = 0 by decide)) (fun _ => ?_)
          refine j_iload (pc := 82) dX7_ask_82 rfl ?_
          refine j_goto (pc := 84) (tgt := 88) dX7_ask_84 rfl ?_
          refine j_istore_n (pc := 88) dX7_ask_88 rfl (Nat.le_of_ble_eq_true rfl) rfl ?_
          refine j_iload (pc := 89) dX7_ask_89 rfl ?_
          refine j_if_eq (pc := 91) (tgt := 99) dX7_ask_91 rfl (fun zc91 => absurd zc91 (show ¬ (1 : Int32) = 0 by decide)) (fun _ => ?_)
          refine j_iload (pc := 94) dX7_ask_94 rfl ?_
          refine j_goto (pc := 96) (tgt := 100) dX7_ask_96 rfl ?_
          refine j_istore_n (pc := 100) dX7_ask_100 rfl (Nat.le_of_ble_eq_true rfl) rfl ?_
          refine j_iinc (pc := 101) dX7_ask_101 rfl rfl (Nat.le_of_ble_eq_true rfl) rfl ?_
          refine j_goto (pc := 104) (tgt := 15) dX7_ask_104 rfl ?_
          rw [nI_s]
          refine j_weak (ls' := [some _, some _, some _, some _, some _, none, none, none]) ⟨rfl, rfl, rfl, rfl, rfl, trivial⟩ (ih (k + 1) _ _ _ (by omega) ?_)
          intro nw2
          have z := hq nw2
          simpa [iter, maStep, ptM, *] using z
    · refine j_iload (pc := 49) dX7_ask_49 rfl ?_
      refine j_goto (pc := 51) (tgt := 58) dX7_ask_51 rfl ?_
      refine j_istore (pc := 58) dX7_ask_58 (Nat.le_of_ble_eq_true rfl) rfl ?_
      refine j_iload_n (pc := 60) dX7_ask_60 rfl ?_
      refine j_if_lt (pc := 61) (tgt := 70) dX7_ask_61 rfl (fun zc61 => ?_) (fun zc61 => ?_)
      · refine j_iconst (pc := 70) dX7_ask_70 kc_1 ?_
        refine j_goto (pc := 71) (tgt := 75) dX7_ask_71 rfl ?_
        refine j_istore (pc := 75) dX7_ask_75 (Nat.le_of_ble_eq_true rfl) rfl ?_
        refine j_iload (pc := 77) dX7_ask_77 rfl ?_
        refine j_if_eq (pc := 79) (tgt := 87) dX7_ask_79 rfl (fun zc79 => absurd zc79 (show ¬ (1 : Int32) = 0 by decide)) (fun _ => ?_)
        refine j_iload (pc := 82) dX7_ask_82 rfl ?_
        refine j_goto (pc := 84) (tgt := 88) dX7_ask_84 rfl ?_
        refine j_istore_n (pc := 88) dX7_ask_88 rfl (Nat.le_of_ble_eq_true rfl) rfl ?_
        refine j_iload (pc := 89) dX7_ask_89 rfl ?_
        refine j_if_eq (pc := 91) (tgt := 99) dX7_ask_91 rfl (fun zc91 => absurd zc91 (show ¬ (1 : Int32) = 0 by decide)) (fun _ => ?_)
        refine j_iload (pc := 94) dX7_ask_94 rfl ?_
        refine j_goto (pc := 96) (tgt := 100) dX7_ask_96 rfl ?_
        refine j_istore_n (pc := 100) dX7_ask_100 rfl (Nat.le_of_ble_eq_true rfl) rfl ?_
        refine j_iinc (pc := 101) dX7_ask_101 rfl rfl (Nat.le_of_ble_eq_true rfl) rfl ?_
        refine j_goto (pc := 104) (tgt := 15) dX7_ask_104 rfl ?_
        rw [nI_s]
        refine j_weak (ls' := [some _, some _, some _, some _, some _, none, none, none]) ⟨rfl, rfl, rfl, rfl, rfl, trivial⟩ (ih (k + 1) _ _ _ (by omega) ?_)
        intro nw2
        have z := hq nw2
        simpa [iter, maStep, ptM, *] using z
      · refine j_iload (pc := 64) dX7_ask_64 rfl ?_
        refine j_iload_n (pc := 66) dX7_ask_66 rfl ?_
        refine j_icmp_ge (pc := 67) (tgt := 74) dX7_ask_67 rfl (fun zc67 => ?_) (fun zc67 => ?_)
        · refine j_iconst (pc := 74) dX7_ask_74 kc_0 ?_
          refine j_istore (pc := 75) dX7_ask_75 (Nat.le_of_ble_eq_true rfl) rfl ?_
          refine j_iload (pc := 77) dX7_ask_77 rfl ?_
          refine j_if_eq (pc := 79) (tgt := 87) dX7_ask_79 rfl (fun _ => ?_) (fun zc79 => absurd (show (0 : Int32) = 0 by decide) zc79)
          refine j_iload_n (pc := 87) dX7_ask_87 rfl ?_
          refine j_istore_n (pc := 88) dX7_ask_88 rfl (Nat.le_of_ble_eq_true rfl) rfl ?_
          refine j_iload (pc := 89) dX7_ask_89 rfl ?_
          refine j_if_eq (pc := 91) (tgt := 99) dX7_ask_91 rfl (fun _ => ?_) (fun zc91 => absurd (show (0 : Int32) = 0 by decide) zc91)
          refine j_iload_n (pc := 99) dX7_ask_99 rfl ?_
          refine j_istore_n (pc := 100) dX7_ask_100 rfl (Nat.le_of_ble_eq_true rfl) rfl ?_
          refine j_iinc (pc := 101) dX7_ask_101 rfl rfl (Nat.le_of_ble_eq_true rfl) rfl ?_
          refine j_goto (pc := 104) (tgt := 15) dX7_ask_104 rfl ?_
          rw [nI_s]
          refine j_weak (ls' := [some _, some _, some _, some _, some _, none, none, none]) ⟨rfl, rfl, rfl, rfl, rfl, trivial⟩ (ih (k + 1) _ _ _ (by omega) ?_)
          intro nw2
          have z := hq nw2
          simpa [iter, maStep, ptM, *] using z
        · refine j_iconst (pc := 70) dX7_ask_70 kc_1 ?_
          refine j_goto (pc := 71) (tgt := 75) dX7_ask_71 rfl ?_
          refine j_istore (pc := 75) dX7_ask_75 (Nat.le_of_ble_eq_true rfl) rfl ?_
          refine j_iload (pc := 77) dX7_ask_77 rfl ?_
          refine j_if_eq (pc := 79) (tgt := 87) dX7_ask_79 rfl (fun zc79 => absurd zc79 (show ¬ (1 : Int32) = 0 by decide)) (fun _ => ?_)
          refine j_iload (pc := 82) dX7_ask_82 rfl ?_
          refine j_goto (pc := 84) (tgt := 88) dX7_ask_84 rfl ?_
          refine j_istore_n (pc := 88) dX7_ask_88 rfl (Nat.le_of_ble_eq_true rfl) rfl ?_
          refine j_iload (pc := 89) dX7_ask_89 rfl ?_
          refine j_if_eq (pc := 91) (tgt := 99) dX7_ask_91 rfl (fun zc91 => absurd zc91 (show ¬ (1 : Int32) = 0 by decide)) (fun _ => ?_)
          refine j_iload (pc := 94) dX7_ask_94 rfl ?_
          refine j_goto (pc := 96) (tgt := 100) dX7_ask_96 rfl ?_
          refine j_istore_n (pc := 100) dX7_ask_100 rfl (Nat.le_of_ble_eq_true rfl) rfl ?_
          refine j_iinc (pc := 101) dX7_ask_101 rfl rfl (Nat.le_of_ble_eq_true rfl) rfl ?_
          refine j_goto (pc := 104) (tgt := 15) dX7_ask_104 rfl ?_
          rw [nI_s]
          refine j_weak (ls' := [some _, some _, some _, some _, some _, none, none, none]) ⟨rfl, rfl, rfl, rfl, rfl, trivial⟩ (ih (k + 1) _ _ _ (by omega) ?_)
          intro nw2
          have z := hq nw2
          simpa [iter, maStep, ptM, *] using z

set_option maxRecDepth 20000 in
set_option maxHeartbeats 200000 in
theorem m_ask0 (hp : pre.length = 129) {ne : Nat} (hde : de = nI ne) (hne : ne ≤ 6) {nt : Nat} (htm : tm = nI nt) (hnt : nt ≤ 6) (h0 : (cbI pi to we st ne nt 0) ≤ 1) (h2 : ∀ nw2 : Fn, Q (some (.int (-9))) (W2 pre de we da bo be sg pi ru st wa kn im ik tm to tr tx tn cu sa tk nu wr it sd swt sdd sbx sfl sdi sb sst sp sr (nw2) od bs)) : C g 4 0 0 mX7_ask [.ref 129] (W2 pre de we da bo be sg pi ru st wa kn im ik tm to tr tx tn cu sa tk nu wr it sd swt sdd sbx sfl sdi sb sst sp sr nw od bs) Q := by
  refine C.of (by decide +kernel) (by simp [Value.category]) (Nat.le_of_ble_eq_true rfl) ?_
  change J g mX7_ask 4 0 0 _ (W2 pre de we da bo be sg pi ru st wa kn im ik tm to tr tx tn cu sa tk nu wr it sd swt sdd sbx sfl sdi sb sst sp sr nw od bs) 0 [some (.ref 129), none, none, none, none, none, none, none] []
  refine j_aload_n (pc := 0) dX7_ask_0 rfl ?_
  refine j_iconst (pc := 1) dX7_ask_1 kc_0 ?_
  refine j_iconst (pc := 2) dX7_ask_2 kc_0 ?_
  refine j_v2 (pc := 3) (ci := 7) dX7_ask_3 mc_X7_canBe ml_X7_220 im_X7_canBe se_X7_canBe rfl rfl (by apply lkE; (with_reducible first | exact lkM_129 hp | exact lkM_133 hp | exact lkM_144 hp | exact lkM_134 hp | exact lkM_130 hp | exact lkM_131 hp | exact lkM_132 hp | exact lkM_135 hp | exact lkM_136 hp | exact lkM_137 hp | exact lkM_138 hp | exact lkM_145 hp | exact lkM_146 hp | exact lkM_139 hp | exact lkM_140 hp | exact lkM_141 hp | exact lkM_142 hp | exact lkM_143 hp); rfl) (by omega) (m_canBe hp hde hne htm hnt) (Nat.le_of_ble_eq_true rfl) ?_
  refine j_istore_n (pc := 6) dX7_ask_6 rfl (Nat.le_of_ble_eq_true rfl) rfl ?_
  refine j_bipush (pc := 7) dX7_ask_7 kb_m9 ?_
  refine j_istore_n (pc := 9) dX7_ask_9 rfl (Nat.le_of_ble_eq_true rfl) rfl ?_
  refine j_iconst (pc := 10) dX7_ask_10 kc_0 ?_
  refine j_istore_n (pc := 11) dX7_ask_11 rfl (Nat.le_of_ble_eq_true rfl) rfl ?_
  refine j_iconst (pc := 12) dX7_ask_12 kc_0 ?_
  refine j_istore (pc := 13) dX7_ask_13 (Nat.le_of_ble_eq_true rfl) rfl ?_
  refine j_iload (pc := 15) dX7_ask_15 rfl ?_
  refine j_aload_n (pc := 17) dX7_ask_17 rfl ?_
  refine j_getf (pc := 18) dX7_ask_18 fl_X7_69 (by apply lkE; (with_reducible first | exact lkM_129 hp | exact lkM_133 hp | exact lkM_144 hp | exact lkM_134 hp | exact lkM_130 hp | exact lkM_131 hp | exact lkM_132 hp | exact lkM_135 hp | exact lkM_136 hp | exact lkM_137 hp | exact lkM_138 hp | exact lkM_145 hp | exact lkM_146 hp | exact lkM_139 hp | exact lkM_140 hp | exact lkM_141 hp | exact lkM_142 hp | exact lkM_143 hp); rfl) rfl ?_
  refine j_icmp_ge (pc := 21) (tgt := 107) dX7_ask_21 rfl (fun zc21 => ?_) (fun zc21 => ?_)
  · refine j_iload_n (pc := 107) dX7_ask_107 rfl ?_
    refine j_ireturn (pc := 108) dX7_ask_108 rfl ?_
    exact h2 _
  · refine j_iload_n (pc := 24) dX7_ask_24 rfl ?_
    refine j_iconst (pc := 25) dX7_ask_25 kc_1 ?_
    refine j_icmp_le (pc := 26) (tgt := 107) dX7_ask_26 rfl (fun _ => ?_) (fun zc26 => absurd h0 zc26)
    refine j_iload_n (pc := 107) dX7_ask_107 rfl ?_
    refine j_ireturn (pc := 108) dX7_ask_108 rfl ?_
    exact h2 _

set_option maxRecDepth 20000 in
set_option maxHeartbeats 200000 in
theorem m_ask1 (hp : pre.length = 129) {ne : Nat} (hde : de = nI ne) (hne : ne ≤ 6) {nt : Nat} (htm : tm = nI nt) (hnt : nt ≤ 6) (h0 : ¬ (cbI pi to we st ne nt 0) ≤ 1) (h2 : ∀ nw2 : Fn, Q (some (.int (iter (maStep pi to we st ne nt (cbI pi to we st ne nt 0)) ne 0 (-9, 0)).1)) (W2 pre de we da bo be sg pi ru st wa kn im ik tm to tr tx tn cu sa tk nu wr it sd swt sdd sbx sfl sdi sb sst sp sr (nw2) od bs)) : C g 4 0 0 mX7_ask [.ref 129] (W2 pre de we da bo be sg pi ru st wa kn im ik tm to tr tx tn cu sa tk nu wr it sd swt sdd sbx sfl sdi sb sst sp sr nw od bs) Q := by
  refine C.of (by decide +kernel) (by simp [Value.category]) (Nat.le_of_ble_eq_true rfl) ?_
  change J g mX7_ask 4 0 0 _ (W2 pre de we da bo be sg pi ru st wa kn im ik tm to tr tx tn cu sa tk nu wr it sd swt sdd sbx sfl sdi sb sst sp sr nw od bs) 0 [some (.ref 129), none, none, none, none, none, none, none] []
  refine j_aload_n (pc := 0) dX7_ask_0 rfl ?_
  refine j_iconst (pc := 1) dX7_ask_1 kc_0 ?_
  refine j_iconst (pc := 2) dX7_ask_2 kc_0 ?_
  refine j_v2 (pc := 3) (ci := 7) dX7_ask_3 mc_X7_canBe ml_X7_220 im_X7_canBe se_X7_canBe rfl rfl (by apply lkE; (with_reducible first | exact lkM_129 hp | exact lkM_133 hp | exact lkM_144 hp | exact lkM_134 hp | exact lkM_130 hp | exact lkM_131 hp | exact lkM_132 hp | exact lkM_135 hp | exact lkM_136 hp | exact lkM_137 hp | exact lkM_138 hp | exact lkM_145 hp | exact lkM_146 hp | exact lkM_139 hp | exact lkM_140 hp | exact lkM_141 hp | exact lkM_142 hp | exact lkM_143 hp); rfl) (by omega) (m_canBe hp hde hne htm hnt) (Nat.le_of_ble_eq_true rfl) ?_
  refine j_istore_n (pc := 6) dX7_ask_6 rfl (Nat.le_of_ble_eq_true rfl) rfl ?_
  refine j_bipush (pc := 7) dX7_ask_7 kb_m9 ?_
  refine j_istore_n (pc := 9) dX7_ask_9 rfl (Nat.le_of_ble_eq_true rfl) rfl ?_
  refine j_iconst (pc := 10) dX7_ask_10 kc_0 ?_
  refine j_istore_n (pc := 11) dX7_ask_11 rfl (Nat.le_of_ble_eq_true rfl) rfl ?_
  refine j_iconst (pc := 12) dX7_ask_12 kc_0 ?_
  refine j_istore (pc := 13) dX7_ask_13 (Nat.le_of_ble_eq_true rfl) rfl ?_
  exact ml_ask hp hde hne htm hnt h0 ne 0 (-9) 0 _ (by omega) h2

theorem m_ask (hp : pre.length = 129) {ne : Nat} (hde : de = nI ne) (hne : ne ≤ 6) {nt : Nat} (htm : tm = nI nt) (hnt : nt ≤ 6) (h2 : ∀ nw2 : Fn, Q (some (.int (maI pi to we st ne nt))) (W2 pre de we da bo be sg pi ru st wa kn im ik tm to tr tx tn cu sa tk nu wr it sd swt sdd sbx sfl sdi sb sst sp sr (nw2) od bs)) : C g 4 0 0 mX7_ask [.ref 129] (W2 pre de we da bo be sg pi ru st wa kn im ik tm to tr tx tn cu sa tk nu wr it sd swt sdd sbx sfl sdi sb sst sp sr nw od bs) Q := by
  by_cases h0 : (cbI pi to we st ne nt 0) ≤ 1
  · rw [maI, if_pos h0] at h2
    exact m_ask0 hp hde hne htm hnt h0 h2
  · rw [maI, if_neg h0] at h2
    exact m_ask1 hp hde hne htm hnt h0 h2
set_option maxRecDepth 20000 in
set_option maxHeartbeats 200000 in
theorem ml_life (hp : pre.length = 129) {s : Int32} {j : Nat} (hj6 : j < 6) {ne : Nat} (hde : de = nI ne) (hne : ne ≤ 6) : ∀ (m k : Nat) (a : Int32), k + m = 2 ^ ne → Q (some (.int (iter (mfStep we ne s (st (9 + j))) m k a))) (W2 pre de we da bo be sg pi ru st wa kn im ik tm to tr tx tn cu sa tk nu wr it sd swt sdd sbx sfl sdi sb sst sp sr nw od bs) → J g mX7_life 7 0 0 Q (W2 pre de we da bo be sg pi ru st wa kn im ik tm to tr tx tn cu sa tk nu wr it sd swt sdd sbx sfl sdi sb sst sp sr nw od bs) 27 [some (.ref 129), some (.int (nI j)), some (.int s), some (.int a), some (.int (nI k)), none] [] := by
  have two := two_le hne
  intro m
  induction m with
  | zero =>
    intro k a hk hq
    refine j_iload (pc := 27) dX7_life_27 rfl ?_
    refine j_iconst (pc := 29) dX7_life_29 kc_1 ?_
    refine j_aload_n (pc := 30) dX7_life_30 rfl ?_
    refine j_getf (pc := 31) dX7_life_31 fl_X7_69 (by apply lkE; (with_reducible first | exact lkM_129 hp | exact lkM_133 hp | exact lkM_144 hp | exact lkM_134 hp | exact lkM_130 hp | exact lkM_131 hp | exact lkM_132 hp | exact lkM_135 hp | exact lkM_136 hp | exact lkM_137 hp | exact lkM_138 hp | exact lkM_145 hp | exact lkM_146 hp | exact lkM_139 hp | exact lkM_140 hp | exact lkM_141 hp | exact lkM_142 hp | exact lkM_143 hp); rfl) rfl ?_
    refine j_ishl (pc := 34) dX7_life_34 ?_
    refine j_icmp_ge (pc := 35) (tgt := 114) dX7_life_35 rfl (fun _ => ?_) (fun zc35 => absurd (by rw [hde, shl2 hne]; exact nI_le (by omega) (by omega)) zc35)
    refine j_iload_n (pc := 114) dX7_life_114 rfl ?_
    refine j_ireturn (pc := 115) dX7_life_115 rfl ?_
    exact hq
  | succ m ih =>
    intro k a hk hq
    refine j_iload (pc := 27) dX7_life_27 rfl ?_
    refine j_iconst (pc := 29) dX7_life_29 kc_1 ?_
    refine j_aload_n (pc := 30) dX7_life_30 rfl ?_
    refine j_getf (pc := 31) dX7_life_31 fl_X7_69 (by apply lkE; (with_reducible first | exact lkM_129 hp | exact lkM_133 hp | exact lkM_144 hp | exact lkM_134 hp | exact lkM_130 hp | exact lkM_131 hp | exact lkM_132 hp | exact lkM_135 hp | exact lkM_136 hp | exact lkM_137 hp | exact lkM_138 hp | exact lkM_145 hp | exact lkM_146 hp | exact lkM_139 hp | exact lkM_140 hp | exact lkM_141 hp | exact lkM_142 hp | exact lkM_143 hp); rfl) rfl ?_
    refine j_ishl (pc := 34) dX7_life_34 ?_
    refine j_icmp_ge (pc := 35) (tgt := 114) dX7_life_35 rfl (fun zc35 => absurd zc35 (by rw [hde, shl2 hne]; exact nI_ge (by omega) (by omega))) (fun _ => ?_)
    refine j_iload (pc := 38) dX7_life_38 rfl ?_
    refine j_aload_n (pc := 40) dX7_life_40 rfl ?_
    refine j_getf (pc := 41) dX7_life_41 fl_X7_26 (by apply lkE; (with_reducible first | exact lkM_129 hp | exact lkM_133 hp | exact lkM_144 hp | exact lkM_134 hp | exact lkM_130 hp | exact lkM_131 hp | exact lkM_132 hp | exact lkM_135 hp | exact lkM_136 hp | exact lkM_137 hp | exact lkM_138 hp | exact lkM_145 hp | exact lkM_146 hp | exact lkM_139 hp | exact lkM_140 hp | exact lkM_141 hp | exact lkM_142 hp | exact lkM_143 hp); rfl) rfl ?_
    refine j_bipush (pc := 44) dX7_life_44 kb_9 ?_
    refine j_iload_n (pc := 46) dX7_life_46 rfl ?_
    refine j_iadd (pc := 47) dX7_life_47 ?_
    refine j_ialdE (pc := 48) dX7_life_48 (by apply lkE; (with_reducible first | exact lkM_129 hp | exact lkM_133 hp | exact lkM_144 hp | exact lkM_134 hp | exact lkM_130 hp | exact lkM_131 hp | exact lkM_132 hp | exact lkM_135 hp | exact lkM_136 hp | exact lkM_137 hp | exact lkM_138 hp | exact lkM_145 hp | exact lkM_146 hp | exact lkM_139 hp | exact lkM_140 hp | exact lkM_141 hp | exact lkM_142 hp | exact lkM_143 hp); rfl) rfl (nIa 9 j) (by omega) (by decide) ?_
    refine j_iand (pc := 49) dX7_life_49 ?_
    refine j_if_ne (pc := 50) (tgt := 77) dX7_life_50 rfl (fun zc50 => ?_) (fun zc50 => ?_)
    · refine j_iconst (pc := 77) dX7_life_77 kc_0 ?_
      refine j_istore (pc := 78) dX7_life_78 (Nat.le_of_ble_eq_true rfl) rfl ?_
      refine j_iload (pc := 80) dX7_life_80 rfl ?_
      refine j_if_eq (pc := 82) (tgt := 106) dX7_life_82 rfl (fun _ => ?_) (fun zc82 => absurd (show (0 : Int32) = 0 by decide) zc82)
      refine j_iload_n (pc := 106) dX7_life_106 rfl ?_
      refine j_istore_n (pc := 107) dX7_life_107 rfl (Nat.le_of_ble_eq_true rfl) rfl ?_
      refine j_iinc (pc := 108) dX7_life_108 rfl rfl (Nat.le_of_ble_eq_true rfl) rfl ?_
      refine j_goto (pc := 111) (tgt := 27) dX7_life_111 rfl ?_
      rw [nI_s]
      refine j_weak (ls' := [some _, some _, some _, some _, some _, none]) ⟨rfl, rfl, rfl, rfl, rfl, trivial⟩ (ih (k + 1) _ (by omega) ?_)
      simpa [iter, mfStep, *] using hq
    · refine j_aload_n (pc := 53) dX7_life_53 rfl ?_
      refine j_iload (pc := 54) dX7_life_54 rfl ?_
      refine j_aload_n (pc := 56) dX7_life_56 rfl ?_
      refine j_getf (pc := 57) dX7_life_57 fl_X7_26 (by apply lkE; (with_reducible first | exact lkM_129 hp | exact lkM_133 hp | exact lkM_144 hp | exact lkM_134 hp | exact lkM_130 hp | exact lkM_131 hp | exact lkM_132 hp | exact lkM_135 hp | exact lkM_136 hp | exact lkM_137 hp | exact lkM_138 hp | exact lkM_145 hp | exact lkM_146 hp | exact lkM_139 hp | exact lkM_140 hp | exact lkM_141 hp | exact lkM_142 hp | exact lkM_143 hp); rfl) rfl ?_
      refine j_bipush (pc := 60) dX7_life_60 kb_9 ?_
      refine j_iload_n (pc := 62) dX7_life_62 rfl ?_
      refine j_iadd (pc := 63) dX7_life_63 ?_
      refine j_ialdE (pc := 64) dX7_life_64 (by apply lkE; (with_reducible first | exact lkM_129 hp | exact lkM_133 hp | exact lkM_144 hp | exact lkM_134 hp | exact lkM_130 hp | exact lkM_131 hp | exact lkM_132 hp | exact lkM_135 hp | exact lkM_136 hp | exact lkM_137 hp | exact lkM_138 hp | exact lkM_145 hp | exact lkM_146 hp | exact lkM_139 hp | exact lkM_140 hp | exact lkM_141 hp | exact lkM_142 hp | exact lkM_143 hp); rfl) rfl (nIa 9 j) (by omega) (by decide) ?_
      refine j_ior (pc := 65) dX7_life_65 ?_
      refine j_v1 (pc := 66) (ci := 7) dX7_life_66 mc_X7_weightOf ml_X7_164 im_X7_weightOf se_X7_weightOf rfl rfl (by apply lkE; (with_reducible first | exact lkM_129 hp | exact lkM_133 hp | exact lkM_144 hp | exact lkM_134 hp | exact lkM_130 hp | exact lkM_131 hp | exact lkM_132 hp | exact lkM_135 hp | exact lkM_136 hp | exact lkM_137 hp | exact lkM_138 hp | exact lkM_145 hp | exact lkM_146 hp | exact lkM_139 hp | exact lkM_140 hp | exact lkM_141 hp | exact lkM_142 hp | exact lkM_143 hp); rfl) (by omega) (m_weightOf hp hde hne) (Nat.le_of_ble_eq_true rfl) ?_
      refine j_iload_n (pc := 69) dX7_life_69 rfl ?_
      refine j_icmp_gt (pc := 70) (tgt := 77) dX7_life_70 rfl (fun zc70 => ?_) (fun zc70 => ?_)
      · refine j_iconst (pc := 77) dX7_life_77 kc_0 ?_
        refine j_istore (pc := 78) dX7_life_78 (Nat.le_of_ble_eq_true rfl) rfl ?_
        refine j_iload (pc := 80) dX7_life_80 rfl ?_
        refine j_if_eq (pc := 82) (tgt := 106) dX7_life_82 rfl (fun _ => ?_) (fun zc82 => absurd (show (0 : Int32) = 0 by decide) zc82)
        refine j_iload_n (pc := 106) dX7_life_106 rfl ?_
        refine j_istore_n (pc := 107) dX7_life_107 rfl (Nat.le_of_ble_eq_true rfl) rfl ?_
        refine j_iinc (pc := 108) dX7_life_108 rfl rfl (Nat.le_of_ble_eq_true rfl) rfl ?_
        refine j_goto (pc := 111) (tgt := 27) dX7_life_111 rfl ?_
        rw [nI_s]
        refine j_weak (ls' := [some _, some _, some _, some _, some _, none]) ⟨rfl, rfl, rfl, rfl, rfl, trivial⟩ (ih (k + 1) _ (by omega) ?_)
        simpa [iter, mfStep, *] using hq
      · refine j_iconst (pc := 73) dX7_life_73 kc_1 ?_
        refine j_goto (pc := 74) (tgt := 78) dX7_life_74 rfl ?_
        refine j_istore (pc := 78) dX7_life_78 (Nat.le_of_ble_eq_true rfl) rfl ?_
        refine j_iload (pc := 80) dX7_life_80 rfl ?_
        refine j_if_eq (pc := 82) (tgt := 106) dX7_life_82 rfl (fun zc82 => absurd zc82 (show ¬ (1 : Int32) = 0 by decide)) (fun _ => ?_)
        refine j_iload_n (pc := 85) dX7_life_85 rfl ?_
        refine j_if_lt (pc := 86) (tgt := 101) dX7_life_86 rfl (fun zc86 => ?_) (fun zc86 => ?_)
        · refine j_iload (pc := 101) dX7_life_101 rfl ?_
          refine j_goto (pc := 103) (tgt := 107) dX7_life_103 rfl ?_
          refine j_istore_n (pc := 107) dX7_life_107 rfl (Nat.le_of_ble_eq_true rfl) rfl ?_
          refine j_iinc (pc := 108) dX7_life_108 rfl rfl (Nat.le_of_ble_eq_true rfl) rfl ?_
          refine j_goto (pc := 111) (tgt := 27) dX7_life_111 rfl ?_
          rw [nI_s]
          refine j_weak (ls' := [some _, some _, some _, some _, some _, none]) ⟨rfl, rfl, rfl, rfl, rfl, trivial⟩ (ih (k + 1) _ (by omega) ?_)
          simpa [iter, mfStep, *] using hq
        · refine j_iload (pc := 89) dX7_life_89 rfl ?_
          refine j_s1 (pc := 91) dX7_life_91 mc_X7_bits ml_X7_202 sm_X7_bits (by omega) (m_bits) (Nat.le_of_ble_eq_true rfl) ?_
          refine j_iload_n (pc := 94) dX7_life_94 rfl ?_
          refine j_s1 (pc := 95) dX7_life_95 mc_X7_bits ml_X7_202 sm_X7_bits (by omega) (m_bits) (Nat.le_of_ble_eq_true rfl) ?_
          refine j_icmp_ge (pc := 98) (tgt := 106) dX7_life_98 rfl (fun zc98 => ?_) (fun zc98 => ?_)
          · refine j_iload_n (pc := 106) dX7_life_106 rfl ?_
            refine j_istore_n (pc := 107) dX7_life_107 rfl (Nat.le_of_ble_eq_true rfl) rfl ?_
            refine j_iinc (pc := 108) dX7_life_108 rfl rfl (Nat.le_of_ble_eq_true rfl) rfl ?_
            refine j_goto (pc := 111) (tgt := 27) dX7_life_111 rfl ?_
            rw [nI_s]
            refine j_weak (ls' := [some _, some _, some _, some _, some _, none]) ⟨rfl, rfl, rfl, rfl, rfl, trivial⟩ (ih (k + 1) _ (by omega) ?_)
            simpa [iter, mfStep, *] using hq
          · refine j_iload (pc := 101) dX7_life_101 rfl ?_
            refine j_goto (pc := 103) (tgt := 107) dX7_life_103 rfl ?_
            refine j_istore_n (pc := 107) dX7_life_107 rfl (Nat.le_of_ble_eq_true rfl) rfl ?_
            refine j_iinc (pc := 108) dX7_life_108 rfl rfl (Nat.le_of_ble_eq_true rfl) rfl ?_
            refine j_goto (pc := 111) (tgt := 27) dX7_life_111 rfl ?_
            rw [nI_s]
            refine j_weak (ls' := [some _, some _, some _, some _, some _, none]) ⟨rfl, rfl, rfl, rfl, rfl, trivial⟩ (ih (k + 1) _ (by omega) ?_)
            simpa [iter, mfStep, *] using hq

set_option maxRecDepth 20000 in
set_option maxHeartbeats 200000 in
theorem m_life (hp : pre.length = 129) {l s : Int32} {n : Nat} (hdd : da = nI n) (hn : n ≤ 6) {ne : Nat} (hde : de = nI ne) (hne : ne ≤ 6) (h1 : (jlt l da && jin s (-99) 99) = false → Q (some (.int (-1))) (W2 pre de we da bo be sg pi ru st wa kn im ik tm to tr tx tn cu sa tk nu wr it sd swt sdd sbx sfl sdi sb sst sp sr nw od bs)) (h2 : ∀ j : Nat, j < n → l = nI j → jin s (-99) 99 = true → Q (some (.int (mfI we st ne j s))) (W2 pre de we da bo be sg pi ru st wa kn im ik tm to tr tx tn cu sa tk nu wr it sd swt sdd sbx sfl sdi sb sst sp sr nw od bs)) : C g 7 0 0 mX7_life [.ref 129, .int l, .int s] (W2 pre de we da bo be sg pi ru st wa kn im ik tm to tr tx tn cu sa tk nu wr it sd swt sdd sbx sfl sdi sb sst sp sr nw od bs) Q := by
  refine C.of (by decide +kernel) (by simp [Value.category]) (Nat.le_of_ble_eq_true rfl) ?_
  change J g mX7_life 7 0 0 _ (W2 pre de we da bo be sg pi ru st wa kn im ik tm to tr tx tn cu sa tk nu wr it sd swt sdd sbx sfl sdi sb sst sp sr nw od bs) 0 [some (.ref 129), some (.int l), some (.int s), none, none, none] []
  refine j_aload_n (pc := 0) dX7_life_0 rfl ?_
  refine j_iload_n (pc := 1) dX7_life_1 rfl ?_
  refine j_v1 (pc := 2) (ci := 7) dX7_life_2 mc_X7_isDead ml_X7_189 im_X7_isDead se_X7_isDead rfl rfl (by apply lkE; (with_reducible first | exact lkM_129 hp | exact lkM_133 hp | exact lkM_144 hp | exact lkM_134 hp | exact lkM_130 hp | exact lkM_131 hp | exact lkM_132 hp | exact lkM_135 hp | exact lkM_136 hp | exact lkM_137 hp | exact lkM_138 hp | exact lkM_145 hp | exact lkM_146 hp | exact lkM_139 hp | exact lkM_140 hp | exact lkM_141 hp | exact lkM_142 hp | exact lkM_143 hp); rfl) (by omega) (m_isDead hp hdd hn) (Nat.le_of_ble_eq_true rfl) ?_
  refine j_beq (pc := 5) (tgt := 19) dX7_life_5 rfl (fun zc5 => ?_) (fun zc5 => ?_)
  · refine j_iconst (pc := 19) dX7_life_19 kc_m1 ?_
    refine j_ireturn (pc := 20) dX7_life_20 rfl ?_
    first
      | exact h1 (by rw [zc5, Bool.false_and])
      | exact h1 (by rw [zc16, Bool.and_false])
  · refine j_iload_n (pc := 8) dX7_life_8 rfl ?_
    refine j_bipush (pc := 9) dX7_life_9 kb_m99 ?_
    refine j_bipush (pc := 11) dX7_life_11 kb_99 ?_
    refine j_s3 (pc := 13) dX7_life_13 mc_X7_in ml_X7_72 sm_X7_in (by omega) (c_in) (Nat.le_of_ble_eq_true rfl) ?_
    refine j_bne (pc := 16) (tgt := 21) dX7_life_16 rfl (fun zc16 => ?_) (fun zc16 => ?_)
    · obtain ⟨j, hj, rfl⟩ := jlt_nat (n := n) (by omega) (by rw [← hdd]; exact zc5)
      have hj6 : j < 6 := by omega
      refine j_bipush (pc := 21) dX7_life_21 kb_m9 ?_
      refine j_istore_n (pc := 23) dX7_life_23 rfl (Nat.le_of_ble_eq_true rfl) rfl ?_
      refine j_iconst (pc := 24) dX7_life_24 kc_0 ?_
      refine j_istore (pc := 25) dX7_life_25 (Nat.le_of_ble_eq_true rfl) rfl ?_
      have two := two_le hne
      exact ml_life hp hj6 hde hne (2 ^ ne) 0 (-9) (by omega) (h2 j hj rfl zc16)
    · refine j_iconst (pc := 19) dX7_life_19 kc_m1 ?_
      refine j_ireturn (pc := 20) dX7_life_20 rfl ?_
      first
        | exact h1 (by rw [zc5, Bool.false_and])
        | exact h1 (by rw [zc16, Bool.and_false])

end

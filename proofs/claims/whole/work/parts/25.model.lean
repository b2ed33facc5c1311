/-! the reference's reader: tokens -/
section
variable {g : GG} {h : List AC} {Q : Option Value → List AC → Prop} {pre : List AC} {de : Int32} {we : Fn} {da : Int32} {bo : Fn} {be : Int32} {sg : Fn} {pi : Int32} {ru : Int32} {st : Fn} {wa : Fn} {kn : Int32} {im : Fn} {ik : Nat → Bool} {tm : Int32} {to : Fn} {tr : Int64} {tx : Fn} {tn : Int32} {cu : Int32} {sa : Int32} {tk : Int32} {nu : Int32} {wr : Bool} {it : Int32} {sd : Int32} {swt : Fn} {sdd : Int32} {sbx : Fn} {sfl : Fn} {sdi : Fn} {sb : Int32} {sst : Fn} {sp : Int32} {sr : Int32} {nw : Fn} {od : Fn} {bs : Fn}
/-- a reader: where it reads, where the token starts, token, number, wrong -/
abbrev MSt : Type := Nat × Nat × Int32 × Int32 × Bool
def laM (tx : Fn) (L b : Nat) : Int32 := if b < L then tx b else -1
theorem laM_in {tx : Fn} {L b : Nat} (h : b < L) : laM tx L b = tx b := if_pos h
theorem laM_out {tx : Fn} {L b : Nat} (h : ¬ b < L) : laM tx L b = -1 := if_neg h
def nmM (tx : Fn) : Nat → Nat → Int32 → Nat × Int32
  | 0, b, v => (b, v)
  | m + 1, b, v => if dgt (tx b) then nmM tx m (b + 1) (if v ≤ 99 then 10 * v + tx b - 48 else v) else (b, v)
theorem nmM_ge (tx : Fn) : ∀ (m b : Nat) (v : Int32), b ≤ (nmM tx m b v).1 ∧ (nmM tx m b v).1 ≤ b + m
  | 0, b, v => ⟨Nat.le_refl _, Nat.le_refl _⟩
  | m + 1, b, v => by
    unfold nmM
    split
    · have := nmM_ge tx m (b + 1) (if v ≤ 99 then 10 * v + tx b - 48 else v)
      omega
    · exact ⟨Nat.le_refl _, by omega⟩
def tkM (c : Int32) : Int32 := if c = 100 then 1 else if c = 108 then 1 else if c = 98 then 1 else if c = 112 then 1 else if c = 114 then 1 else if c = 59 then 3 else 4
def bdM (tx : Fn) (p q : Nat) (v : Int32) : Int32 := if 99 < v then 4 else (if tx p = 48 then (if nI q - nI p ≤ 1 then 2 else 4) else 2)
def nxM (tx : Fn) (L p : Nat) (w : Bool) : MSt :=
  if L ≤ p then (p, p, 0, 0, w)
  else if dgt (tx p) then ((nmM tx (L - p) p 0).1, p, bdM tx p (nmM tx (L - p) p 0).1 (nmM tx (L - p) p 0).2, (nmM tx (L - p) p 0).2, w)
  else (p + 1, p, tkM (tx p), tx p, w)
def nextM (tx : Fn) (L : Nat) (s : MSt) : MSt := nxM tx L (skR tx (L - s.1) s.1) s.2.2.2.2
theorem nextM_ok {tx : Fn} {L : Nat} {s : MSt} (h : s.1 ≤ L) : (nextM tx L s).1 ≤ L ∧ (nextM tx L s).2.1 ≤ L ∧ s.1 ≤ (nextM tx L s).1 ∧ (¬ (nextM tx L s).2.2.1 = 0 → s.1 < (nextM tx L s).1) := by
  have h1 := skR_ge tx (L - s.1) s.1
  unfold nextM nxM
  split
  · exact ⟨by show _ ≤ L; omega, by show skR tx (L - s.1) s.1 ≤ L; omega, h1.1, fun q => absurd rfl q⟩
  · split
    · rename_i h2 h3
      have h4 := nmM_ge tx (L - skR tx (L - s.1) s.1) (skR tx (L - s.1) s.1) 0
      have h5 : skR tx (L - s.1) s.1 + 1 ≤ (nmM tx (L - skR tx (L - s.1) s.1) (skR tx (L - s.1) s.1) 0).1 := by
        obtain ⟨m, hm⟩ : ∃ m, L - skR tx (L - s.1) s.1 = m + 1 := ⟨L - skR tx (L - s.1) s.1 - 1, by omega⟩
        rw [hm, nmM, if_pos h3]
        exact (nmM_ge tx m _ _).1
      exact ⟨by show _ ≤ L; omega, by show skR tx (L - s.1) s.1 ≤ L; omega, by show s.1 ≤ _; omega, fun _ => by show s.1 < _; omega⟩
    · exact ⟨by show _ ≤ L; omega, by show skR tx (L - s.1) s.1 ≤ L; omega, by show s.1 ≤ _; omega, fun _ => by show s.1 < _; omega⟩
theorem nextM_w {tx : Fn} {L : Nat} {s : MSt} : (nextM tx L s).2.2.2.2 = s.2.2.2.2 := by
  unfold nextM nxM
  split
  · rfl
  · split <;> rfl
def okM (lo hi : Int32) (s : MSt) : Bool := !s.2.2.2.2 && (decide (s.2.2.1 = 2) && jin s.2.2.2.1 lo hi)
def wrM (s : MSt) : MSt := (s.1, s.2.1, s.2.2.1, s.2.2.2.1, true)
def tnS (tx : Fn) (L : Nat) (lo hi : Int32) (s : MSt) : MSt := if okM lo hi s then nextM tx L s else wrM s
def tnV (lo hi : Int32) (s : MSt) : Int32 := if okM lo hi s then s.2.2.2.1 else 0
set_option maxRecDepth 20000 in
set_option maxHeartbeats 200000 in
theorem m_letterAt (hp : pre.length = 129) {L b : Nat} (htn : tn = nI L) (hL : L ≤ 150) (hb : b ≤ 1000) : CD g 0 mX7_letterAt [.ref 129, .int (nI b)] (W2 pre de we da bo be sg pi ru st wa kn im ik tm to tr tx tn cu sa tk nu wr it sd swt sdd sbx sfl sdi sb sst sp sr nw od bs) (some (.int (laM tx L b))) (W2 pre de we da bo be sg pi ru st wa kn im ik tm to tr tx tn cu sa tk nu wr it sd swt sdd sbx sfl sdi sb sst sp sr nw od bs) := by
  refine C.of (by decide +kernel) (by simp [Value.category]) (Nat.le_of_ble_eq_true rfl) ?_
  change J g mX7_letterAt 0 0 0 _ (W2 pre de we da bo be sg pi ru st wa kn im ik tm to tr tx tn cu sa tk nu wr it sd swt sdd sbx sfl sdi sb sst sp sr nw od bs) 0 [some (.ref 129), some (.int (nI b))] []
  refine j_iload_n (pc := 0) dX7_letterAt_0 rfl ?_
  refine j_aload_n (pc := 1) dX7_letterAt_1 rfl ?_
  refine j_getf (pc := 2) dX7_letterAt_2 fl_X7_79 (by apply lkE; (with_reducible first | exact lkM_129 hp | exact lkM_133 hp | exact lkM_144 hp | exact lkM_134 hp | exact lkM_130 hp | exact lkM_131 hp | exact lkM_132 hp | exact lkM_135 hp | exact lkM_136 hp | exact lkM_137 hp | exact lkM_138 hp | exact lkM_145 hp | exact lkM_146 hp | exact lkM_139 hp | exact lkM_140 hp | exact lkM_141 hp | exact lkM_142 hp | exact lkM_143 hp); rfl) rfl ?_
  refine j_icmp_ge (pc := 5) (tgt := 17) dX7_letterAt_5 rfl (fun zc5 => ?_) (fun zc5 => ?_)
  · have zl : ¬ b < L := fun e => by
      rw [htn] at zc5
      exact nI_ge e (by omega) zc5
    refine j_iconst (pc := 17) dX7_letterAt_17 kc_m1 ?_
    refine j_ireturn (pc := 18) dX7_letterAt_18 rfl ?_
    first
      | exact ⟨by rw [laM_in zl], rfl⟩
      | exact ⟨by rw [laM_out zl], rfl⟩
  · have zl : b < L := by
      by_cases e : b < L
      · exact e
      · exact absurd (by rw [htn]; exact nI_le (by omega) (by omega)) zc5
    refine j_aload_n (pc := 8) dX7_letterAt_8 rfl ?_
    refine j_getf (pc := 9) dX7_letterAt_9 fl_X7_42 (by apply lkE; (with_reducible first | exact lkM_129 hp | exact lkM_133 hp | exact lkM_144 hp | exact lkM_134 hp | exact lkM_130 hp | exact lkM_131 hp | exact lkM_132 hp | exact lkM_135 hp | exact lkM_136 hp | exact lkM_137 hp | exact lkM_138 hp | exact lkM_145 hp | exact lkM_146 hp | exact lkM_139 hp | exact lkM_140 hp | exact lkM_141 hp | exact lkM_142 hp | exact lkM_143 hp); rfl) rfl ?_
    refine j_iload_n (pc := 12) dX7_letterAt_12 rfl ?_
    refine j_ialdE (pc := 13) dX7_letterAt_13 (by apply lkE; (with_reducible first | exact lkM_129 hp | exact lkM_133 hp | exact lkM_144 hp | exact lkM_134 hp | exact lkM_130 hp | exact lkM_131 hp | exact lkM_132 hp | exact lkM_135 hp | exact lkM_136 hp | exact lkM_137 hp | exact lkM_138 hp | exact lkM_145 hp | exact lkM_146 hp | exact lkM_139 hp | exact lkM_140 hp | exact lkM_141 hp | exact lkM_142 hp | exact lkM_143 hp); rfl) rfl rfl (by omega) (by decide) ?_
    refine j_goto (pc := 14) (tgt := 18) dX7_letterAt_14 rfl ?_
    refine j_ireturn (pc := 18) dX7_letterAt_18 rfl ?_
    first
      | exact ⟨by rw [laM_in zl], rfl⟩
      | exact ⟨by rw [laM_out zl], rfl⟩

set_option maxRecDepth 20000 in
set_option maxHeartbeats 200000 in
theorem m_isFigure {c : Int32} : CD g 1 mX7_isFigure [.int c] h (some (.int (b2i (dgt c)))) h := by
  refine C.of (by decide +kernel) (by simp [Value.category]) (Nat.le_of_ble_eq_true rfl) ?_
  change J g mX7_isFigure 1 0 0 _ h 0 [some (.int c)] []
  refine j_iload_n (pc := 0) dX7_isFigure_0 rfl ?_
  refine j_bipush (pc := 1) dX7_isFigure_1 kb_48 ?_
  refine j_bipush (pc := 3) dX7_isFigure_3 kb_57 ?_
  refine j_s3 (pc := 5) dX7_isFigure_5 mc_X7_in ml_X7_72 sm_X7_in (by omega) (c_in) (Nat.le_of_ble_eq_true rfl) ?_
  refine j_zret (pc := 8) (b := dgt c) dX7_isFigure_8 rfl rfl ?_
  exact ⟨rfl, rfl⟩

set_option maxRecDepth 20000 in
set_option maxHeartbeats 200000 in
theorem ml_skip (hp : pre.length = 129) {L : Nat} (htn : tn = nI L) (hL : L ≤ 150) : ∀ (m b : Nat), b + m = L → J g mX7_next 2 0 0 Q (W2 pre de we da bo be sg pi ru st wa kn im ik tm to tr tx tn (nI (skR tx m b)) sa tk nu wr it sd swt sdd sbx sfl sdi sb sst sp sr nw od bs) 26 [some (.ref 129), none] [] → J g mX7_next 2 0 0 Q (W2 pre de we da bo be sg pi ru st wa kn im ik tm to tr tx tn (nI b) sa tk nu wr it sd swt sdd sbx sfl sdi sb sst sp sr nw od bs) 0 [some (.ref 129), none] [] := by
  intro m
  induction m with
  | zero =>
    intro b hk hq
    refine j_aload_n (pc := 0) dX7_next_0 rfl ?_
    refine j_aload_n (pc := 1) dX7_next_1 rfl ?_
    refine j_getf (pc := 2) dX7_next_2 fl_X7_82 (by apply lkE; (with_reducible first | exact lkM_129 hp | exact lkM_133 hp | exact lkM_144 hp | exact lkM_134 hp | exact lkM_130 hp | exact lkM_131 hp | exact lkM_132 hp | exact lkM_135 hp | exact lkM_136 hp | exact lkM_137 hp | exact lkM_138 hp | exact lkM_145 hp | exact lkM_146 hp | exact lkM_139 hp | exact lkM_140 hp | exact lkM_141 hp | exact lkM_142 hp | exact lkM_143 hp); rfl) rfl ?_
    refine j_v1 (pc := 5) (ci := 7) dX7_next_5 mc_X7_letterAt ml_X7_85 im_X7_letterAt se_X7_letterAt rfl rfl (by apply lkE; (with_reducible first | exact lkM_129 hp | exact lkM_133 hp | exact lkM_144 hp | exact lkM_134 hp | exact lkM_130 hp | exact lkM_131 hp | exact lkM_132 hp | exact lkM_135 hp | exact lkM_136 hp | exact lkM_137 hp | exact lkM_138 hp | exact lkM_145 hp | exact lkM_146 hp | exact lkM_139 hp | exact lkM_140 hp | exact lkM_141 hp | exact lkM_142 hp | exact lkM_143 hp); rfl) (by omega) (m_letterAt hp htn hL (by omega)) (Nat.le_of_ble_eq_true rfl) ?_
    first
      | rw [laM_in (by omega)]
      | rw [laM_out (by omega)]
    refine j_bipush (pc := 8) dX7_next_8 kb_32 ?_
    refine j_icmp_ne (pc := 10) (tgt := 26) dX7_next_10 rfl (fun _ => ?_) (fun zc10 => absurd zc10 (show ¬ (-1 : Int32) = 32 by decide))
    first
      | exact hq
      | (rw [show skR tx (m + 1) b = b by simp [skR, *]] at hq
         exact hq)
  | succ m ih =>
    intro b hk hq
    refine j_aload_n (pc := 0) dX7_next_0 rfl ?_
    refine j_aload_n (pc := 1) dX7_next_1 rfl ?_
    refine j_getf (pc := 2) dX7_next_2 fl_X7_82 (by apply lkE; (with_reducible first | exact lkM_129 hp | exact lkM_133 hp | exact lkM_144 hp | exact lkM_134 hp | exact lkM_130 hp | exact lkM_131 hp | exact lkM_132 hp | exact lkM_135 hp | exact lkM_136 hp | exact lkM_137 hp | exact lkM_138 hp | exact lkM_145 hp | exact lkM_146 hp | exact lkM_139 hp | exact lkM_140 hp | exact lkM_141 hp | exact lkM_142 hp | exact lkM_143 hp); rfl) rfl ?_
    refine j_v1 (pc := 5) (ci := 7) dX7_next_5 mc_X7_letterAt ml_X7_85 im_X7_letterAt se_X7_letterAt rfl rfl (by apply lkE; (with_reducible first | exact lkM_129 hp | exact lkM_133 hp | exact lkM_144 hp | exact lkM_134 hp | exact lkM_130 hp | exact lkM_131 hp | exact lkM_132 hp | exact lkM_135 hp | exact lkM_136 hp | exact lkM_137 hp | exact lkM_138 hp | exact lkM_145 hp | exact lkM_146 hp | exact lkM_139 hp | exact lkM_140 hp | exact lkM_141 hp | exact lkM_142 hp | exact lkM_143 hp); rfl) (by omega) (m_letterAt hp htn hL (by omega)) (Nat.le_of_ble_eq_true rfl) ?_
    first
      | rw [laM_in (by omega)]
      | rw [laM_out (by omega)]
    refine j_bipush (pc := 8) dX7_next_8 kb_32 ?_
    refine j_icmp_ne (pc := 10) (tgt := 26) dX7_next_10 rfl (fun zc10 => ?_) (fun zc10 => ?_)
    · first
        | exact hq
        | (rw [show skR tx (m + 1) b = b by simp [skR, *]] at hq
           exact hq)
    · refine j_aload_n (pc := 13) dX7_next_13 rfl ?_
      refine j_dup (pc := 14) dX7_next_14 rfl ?_
      refine j_getf (pc := 15) dX7_next_15 fl_X7_82 (by apply lkE; (with_reducible first | exact lkM_129 hp | exact lkM_133 hp | exact lkM_144 hp | exact lkM_134 hp | exact lkM_130 hp | exact lkM_131 hp | exact lkM_132 hp | exact lkM_135 hp | exact lkM_136 hp | exact lkM_137 hp | exact lkM_138 hp | exact lkM_145 hp | exact lkM_146 hp | exact lkM_139 hp | exact lkM_140 hp | exact lkM_141 hp | exact lkM_142 hp | exact lkM_143 hp); rfl) rfl ?_
      refine j_iconst (pc := 18) dX7_next_18 kc_1 ?_
      refine j_iadd (pc := 19) dX7_next_19 ?_
      refine j_putf (pc := 20) dX7_next_20 fl_X7_82 (jfit_i _) (by apply lkE; (with_reducible first | exact lkM_129 hp | exact lkM_133 hp | exact lkM_144 hp | exact lkM_134 hp | exact lkM_130 hp | exact lkM_131 hp | exact lkM_132 hp | exact lkM_135 hp | exact lkM_136 hp | exact lkM_137 hp | exact lkM_138 hp | exact lkM_145 hp | exact lkM_146 hp | exact lkM_139 hp | exact lkM_140 hp | exact lkM_141 hp | exact lkM_142 hp | exact lkM_143 hp); rfl) (upM_129 hp) ?_
      refine j_goto (pc := 23) (tgt := 0) dX7_next_23 rfl ?_
      rw [nI_s1]
      refine ih (b + 1) (by omega) ?_
      rw [show skR tx (m + 1) b = skR tx m (b + 1) by simp [skR, *]] at hq
      exact hq

set_option maxRecDepth 20000 in
set_option maxHeartbeats 200000 in
theorem ml_num (hp : pre.length = 129) {L : Nat} (htn : tn = nI L) (hL : L ≤ 150) {c0 : Int32} : ∀ (m b : Nat) (v : Int32), b + m = L → J g mX7_next 2 0 0 Q (W2 pre de we da bo be sg pi ru st wa kn im ik tm to tr tx tn (nI (nmM tx m b v).1) sa tk ((nmM tx m b v).2) wr it sd swt sdd sbx sfl sdi sb sst sp sr nw od bs) 133 [some (.ref 129), some (.int c0)] [] → J g mX7_next 2 0 0 Q (W2 pre de we da bo be sg pi ru st wa kn im ik tm to tr tx tn (nI b) sa tk (v) wr it sd swt sdd sbx sfl sdi sb sst sp sr nw od bs) 67 [some (.ref 129), some (.int c0)] [] := by
  intro m
  induction m with
  | zero =>
    intro b v hk hq
    refine j_aload_n (pc := 67) dX7_next_67 rfl ?_
    refine j_aload_n (pc := 68) dX7_next_68 rfl ?_
    refine j_getf (pc := 69) dX7_next_69 fl_X7_82 (by apply lkE; (with_reducible first | exact lkM_129 hp | exact lkM_133 hp | exact lkM_144 hp | exact lkM_134 hp | exact lkM_130 hp | exact lkM_131 hp | exact lkM_132 hp | exact lkM_135 hp | exact lkM_136 hp | exact lkM_137 hp | exact lkM_138 hp | exact lkM_145 hp | exact lkM_146 hp | exact lkM_139 hp | exact lkM_140 hp | exact lkM_141 hp | exact lkM_142 hp | exact lkM_143 hp); rfl) rfl ?_
    refine j_v1 (pc := 72) (ci := 7) dX7_next_72 mc_X7_letterAt ml_X7_85 im_X7_letterAt se_X7_letterAt rfl rfl (by apply lkE; (with_reducible first | exact lkM_129 hp | exact lkM_133 hp | exact lkM_144 hp | exact lkM_134 hp | exact lkM_130 hp | exact lkM_131 hp | exact lkM_132 hp | exact lkM_135 hp | exact lkM_136 hp | exact lkM_137 hp | exact lkM_138 hp | exact lkM_145 hp | exact lkM_146 hp | exact lkM_139 hp | exact lkM_140 hp | exact lkM_141 hp | exact lkM_142 hp | exact lkM_143 hp); rfl) (by omega) (m_letterAt hp htn hL (by omega)) (Nat.le_of_ble_eq_true rfl) ?_
    first
      | rw [laM_in (by omega)]
      | rw [laM_out (by omega)]
    refine j_s1 (pc := 75) dX7_next_75 mc_X7_isFigure ml_X7_98 sm_X7_isFigure (by omega) (m_isFigure) (Nat.le_of_ble_eq_true rfl) ?_
    refine j_beq (pc := 78) (tgt := 133) dX7_next_78 rfl (fun _ => ?_) (fun zc78 => by cases ((show dgt (-1) = false by decide)).symm.trans zc78)
    first
      | exact hq
      | (rw [show nmM tx (m + 1) b v = (b, v) by rw [nmM, if_neg (fun e => by rw [zc78] at e; cases e)]] at hq
         exact hq)
  | succ m ih =>
    intro b v hk hq
    refine j_aload_n (pc := 67) dX7_next_67 rfl ?_
    refine j_aload_n (pc := 68) dX7_next_68 rfl ?_
    refine j_getf (pc := 69) dX7_next_69 fl_X7_82 (by apply lkE; (with_reducible first | exact lkM_129 hp | exact lkM_133 hp | exact lkM_144 hp | exact lkM_134 hp | exact lkM_130 hp | exact lkM_131 hp | exact lkM_132 hp | exact lkM_135 hp | exact lkM_136 hp | exact lkM_137 hp | exact lkM_138 hp | exact lkM_145 hp | exact lkM_146 hp | exact lkM_139 hp | exact lkM_140 hp | exact lkM_141 hp | exact lkM_142 hp | exact lkM_143 hp); rfl) rfl ?_
    refine j_v1 (pc := 72) (ci := 7) dX7_next_72 mc_X7_letterAt ml_X7_85 im_X7_letterAt se_X7_letterAt rfl rfl (by apply lkE; (with_reducible first | exact lkM_129 hp | exact lkM_133 hp | exact lkM_144 hp | exact lkM_134 hp | exact lkM_130 hp | exact lkM_131 hp | exact lkM_132 hp | exact lkM_135 hp | exact lkM_136 hp | exact lkM_137 hp | exact lkM_138 hp | exact lkM_145 hp | exact lkM_146 hp | exact lkM_139 hp | exact lkM_140 hp | exact lkM_141 hp | exact lkM_142 hp | exact lkM_143 hp); rfl) (by omega) (m_letterAt hp htn hL (by omega)) (Nat.le_of_ble_eq_true rfl) ?_
    first
      | rw [laM_in (by omega)]
      | rw [laM_out (by omega)]
    refine j_s1 (pc := 75) dX7_next_75 mc_X7_isFigure ml_X7_98 sm_X7_isFigure (by omega) (m_isFigure) (Nat.le_of_ble_eq_true rfl) ?_
    refine j_beq (pc := 78) (tgt := 133) dX7_next_78 rfl (fun zc78 => ?_) (fun zc78 => ?_)
    · first
        | exact hq
        | (rw [show nmM tx (m + 1) b v = (b, v) by rw [nmM, if_neg (fun e => by rw [zc78] at e; cases e)]] at hq
           exact hq)
    · refine j_aload_n (pc := 81) dX7_next_81 rfl ?_
      refine j_aload_n (pc := 82) dX7_next_82 rfl ?_
      refine j_getf (pc := 83) dX7_next_83 fl_X7_92 (by apply lkE; (with_reducible first | exact lkM_129 hp | exact lkM_133 hp | exact lkM_144 hp | exact lkM_134 hp | exact lkM_130 hp | exact lkM_131 hp | exact lkM_132 hp | exact lkM_135 hp | exact lkM_136 hp | exact lkM_137 hp | exact lkM_138 hp | exact lkM_145 hp | exact lkM_146 hp | exact lkM_139 hp | exact lkM_140 hp | exact lkM_141 hp | exact lkM_142 hp | exact lkM_143 hp); rfl) rfl ?_
      refine j_bipush (pc := 86) dX7_next_86 kb_99 ?_
      refine j_icmp_le (pc := 88) (tgt := 98) dX7_next_88 rfl (fun zc88 => ?_) (fun zc88 => ?_)
      · refine j_bipush (pc := 98) dX7_next_98 kb_10 ?_
        refine j_aload_n (pc := 100) dX7_next_100 rfl ?_
        refine j_getf (pc := 101) dX7_next_101 fl_X7_92 (by apply lkE; (with_reducible first | exact lkM_129 hp | exact lkM_133 hp | exact lkM_144 hp | exact lkM_134 hp | exact lkM_130 hp | exact lkM_131 hp | exact lkM_132 hp | exact lkM_135 hp | exact lkM_136 hp | exact lkM_137 hp | exact lkM_138 hp | exact lkM_145 hp | exact lkM_146 hp | exact lkM_139 hp | exact lkM_140 hp | exact lkM_141 hp | exact lkM_142 hp | exact lkM_143 hp); rfl) rfl ?_
        refine j_imul (pc := 104) dX7_next_104 ?_
        refine j_aload_n (pc := 105) dX7_next_105 rfl ?_
        refine j_aload_n (pc := 106) dX7_next_106 rfl ?_
        refine j_getf (pc := 107) dX7_next_107 fl_X7_82 (by apply lkE; (with_reducible first | exact lkM_129 hp | exact lkM_133 hp | exact lkM_144 hp | exact lkM_134 hp | exact lkM_130 hp | exact lkM_131 hp | exact lkM_132 hp | exact lkM_135 hp | exact lkM_136 hp | exact lkM_137 hp | exact lkM_138 hp | exact lkM_145 hp | exact lkM_146 hp | exact lkM_139 hp | exact lkM_140 hp | exact lkM_141 hp | exact lkM_142 hp | exact lkM_143 hp); rfl) rfl ?_
        refine j_v1 (pc := 110) (ci := 7) dX7_next_110 mc_X7_letterAt ml_X7_85 im_X7_letterAt se_X7_letterAt rfl rfl (by apply lkE; (with_reducible first | exact lkM_129 hp | exact lkM_133 hp | exact lkM_144 hp | exact lkM_134 hp | exact lkM_130 hp | exact lkM_131 hp | exact lkM_132 hp | exact lkM_135 hp | exact lkM_136 hp | exact lkM_137 hp | exact lkM_138 hp | exact lkM_145 hp | exact lkM_146 hp | exact lkM_139 hp | exact lkM_140 hp | exact lkM_141 hp | exact lkM_142 hp | exact lkM_143 hp); rfl) (by omega) (m_letterAt hp htn hL (by omega)) (Nat.le_of_ble_eq_true rfl) ?_
        first
          | rw [laM_in (by omega)]
          | rw [laM_out (by omega)]
        refine j_iadd (pc := 113) dX7_next_113 ?_
        refine j_bipush (pc := 114) dX7_next_114 kb_48 ?_
        refine j_isub (pc := 116) dX7_next_116 ?_
        refine j_putf (pc := 117) dX7_next_117 fl_X7_92 (jfit_i _) (by apply lkE; (with_reducible first | exact lkM_129 hp | exact lkM_133 hp | exact lkM_144 hp | exact lkM_134 hp | exact lkM_130 hp | exact lkM_131 hp | exact lkM_132 hp | exact lkM_135 hp | exact lkM_136 hp | exact lkM_137 hp | exact lkM_138 hp | exact lkM_145 hp | exact lkM_146 hp | exact lkM_139 hp | exact lkM_140 hp | exact lkM_141 hp | exact lkM_142 hp | exact lkM_143 hp); rfl) (upM_129 hp) ?_
        refine j_aload_n (pc := 120) dX7_next_120 rfl ?_
        refine j_dup (pc := 121) dX7_next_121 rfl ?_
        refine j_getf (pc := 122) dX7_next_122 fl_X7_82 (by apply lkE; (with_reducible first | exact lkM_129 hp | exact lkM_133 hp | exact lkM_144 hp | exact lkM_134 hp | exact lkM_130 hp | exact lkM_131 hp | exact lkM_132 hp | exact lkM_135 hp | exact lkM_136 hp | exact lkM_137 hp | exact lkM_138 hp | exact lkM_145 hp | exact lkM_146 hp | exact lkM_139 hp | exact lkM_140 hp | exact lkM_141 hp | exact lkM_142 hp | exact lkM_143 hp); rfl) rfl ?_
        refine j_iconst (pc := 125) dX7_next_125 kc_1 ?_
        refine j_iadd (pc := 126) dX7_next_126 ?_
        refine j_putf (pc := 127) dX7_next_127 fl_X7_82 (jfit_i _) (by apply lkE; (with_reducible first | exact lkM_129 hp | exact lkM_133 hp | exact lkM_144 hp | exact lkM_134 hp | exact lkM_130 hp | exact lkM_131 hp | exact lkM_132 hp | exact lkM_135 hp | exact lkM_136 hp | exact lkM_137 hp | exact lkM_138 hp | exact lkM_145 hp | exact lkM_146 hp | exact lkM_139 hp | exact lkM_140 hp | exact lkM_141 hp | exact lkM_142 hp | exact lkM_143 hp); rfl) (upM_129 hp) ?_
        refine j_goto (pc := 130) (tgt := 67) dX7_next_130 rfl ?_
        rw [nI_s1]
        refine ih (b + 1) _ (by omega) ?_
        first
          | (rw [show nmM tx (m + 1) b v = nmM tx m (b + 1) v by rw [nmM, if_pos zc78, if_neg zc88]] at hq
             exact hq)
          | (rw [show nmM tx (m + 1) b v = nmM tx m (b + 1) (10 * v + tx b - 48) by rw [nmM, if_pos zc78, if_pos zc88]] at hq
             exact hq)
      · refine j_aload_n (pc := 91) dX7_next_91 rfl ?_
        refine j_getf (pc := 92) dX7_next_92 fl_X7_92 (by apply lkE; (with_reducible first | exact lkM_129 hp | exact lkM_133 hp | exact lkM_144 hp | exact lkM_134 hp | exact lkM_130 hp | exact lkM_131 hp | exact lkM_132 hp | exact lkM_135 hp | exact lkM_136 hp | exact lkM_137 hp | exact lkM_138 hp | exact lkM_145 hp | exact lkM_146 hp | exact lkM_139 hp | exact lkM_140 hp | exact lkM_141 hp | exact lkM_142 hp | exact lkM_143 hp); rfl) rfl ?_
        refine j_goto (pc := 95) (tgt := 117) dX7_next_95 rfl ?_
        refine j_putf (pc := 117) dX7_next_117 fl_X7_92 (jfit_i _) (by apply lkE; (with_reducible first | exact lkM_129 hp | exact lkM_133 hp | exact lkM_144 hp | exact lkM_134 hp | exact lkM_130 hp | exact lkM_131 hp | exact lkM_132 hp | exact lkM_135 hp | exact lkM_136 hp | exact lkM_137 hp | exact lkM_138 hp | exact lkM_145 hp | exact lkM_146 hp | exact lkM_139 hp | exact lkM_140 hp | exact lkM_141 hp | exact lkM_142 hp | exact lkM_143 hp); rfl) (upM_129 hp) ?_
        refine j_aload_n (pc := 120) dX7_next_120 rfl ?_
        refine j_dup (pc := 121) dX7_next_121 rfl ?_
        refine j_getf (pc := 122) dX7_next_122 fl_X7_82 (by apply lkE; (with_reducible first | exact lkM_129 hp | exact lkM_133 hp | exact lkM_144 hp | exact lkM_134 hp | exact lkM_130 hp | exact lkM_131 hp | exact lkM_132 hp | exact lkM_135 hp | exact lkM_136 hp | exact lkM_137 hp | exact lkM_138 hp | exact lkM_145 hp | exact lkM_146 hp | exact lkM_139 hp | exact lkM_140 hp | exact lkM_141 hp | exact lkM_142 hp | exact lkM_143 hp); rfl) rfl ?_
        refine j_iconst (pc := 125) dX7_next_125 kc_1 ?_
        refine j_iadd (pc := 126) dX7_next_126 ?_
        refine j_putf (pc := 127) dX7_next_127 fl_X7_82 (jfit_i _) (by apply lkE; (with_reducible first | exact lkM_129 hp | exact lkM_133 hp | exact lkM_144 hp | exact lkM_134 hp | exact lkM_130 hp | exact lkM_131 hp | exact lkM_132 hp | exact lkM_135 hp | exact lkM_136 hp | exact lkM_137 hp | exact lkM_138 hp | exact lkM_145 hp | exact lkM_146 hp | exact lkM_139 hp | exact lkM_140 hp | exact lkM_141 hp | exact lkM_142 hp | exact lkM_143 hp); rfl) (upM_129 hp) ?_
        refine j_goto (pc := 130) (tgt := 67) dX7_next_130 rfl ?_
        rw [nI_s1]
        refine ih (b + 1) _ (by omega) ?_
        first
          | (rw [show nmM tx (m + 1) b v = nmM tx m (b + 1) v by rw [nmM, if_pos zc78, if_neg zc88]] at hq
             exact hq)
          | (rw [show nmM tx (m + 1) b v = nmM tx m (b + 1) (10 * v + tx b - 48) by rw [nmM, if_pos zc78, if_pos zc88]] at hq
             exact hq)

set_option maxRecDepth 20000 in
set_option maxHeartbeats 200000 in
theorem m_nextG (hp : pre.length = 129) {L : Nat} (htn : tn = nI L) (hL : L ≤ 150) (hx : ∀ k, k < L → 0 ≤ tx k) {c : Nat} (hc : c ≤ L) : CD g 2 mX7_next [.ref 129] (W2 pre de we da bo be sg pi ru st wa kn im ik tm to tr tx tn (nI c) sa tk nu wr it sd swt sdd sbx sfl sdi sb sst sp sr nw od bs) none (W2 pre de we da bo be sg pi ru st wa kn im ik tm to tr tx tn (nI (nxM tx L (skR tx (L - c) c) wr).1) (nI (nxM tx L (skR tx (L - c) c) wr).2.1) ((nxM tx L (skR tx (L - c) c) wr).2.2.1) ((nxM tx L (skR tx (L - c) c) wr).2.2.2.1) ((nxM tx L (skR tx (L - c) c) wr).2.2.2.2) it sd swt sdd sbx sfl sdi sb sst sp sr nw od bs) := by
  refine C.of (by decide +kernel) (by simp [Value.category]) (Nat.le_of_ble_eq_true rfl) ?_
  change J g mX7_next 2 0 0 _ (W2 pre de we da bo be sg pi ru st wa kn im ik tm to tr tx tn (nI c) sa tk nu wr it sd swt sdd sbx sfl sdi sb sst sp sr nw od bs) 0 [some (.ref 129), none] []
  refine ml_skip hp htn hL (L - c) c (by omega) ?_
  have hs := skR_ge tx (L - c) c
  generalize skR tx (L - c) c = p at hs ⊢
  refine j_aload_n (pc := 26) dX7_next_26 rfl ?_
  refine j_aload_n (pc := 27) dX7_next_27 rfl ?_
  refine j_getf (pc := 28) dX7_next_28 fl_X7_82 (by apply lkE; (with_reducible first | exact lkM_129 hp | exact lkM_133 hp | exact lkM_144 hp | exact lkM_134 hp | exact lkM_130 hp | exact lkM_131 hp | exact lkM_132 hp | exact lkM_135 hp | exact lkM_136 hp | exact lkM_137 hp | exact lkM_138 hp | exact lkM_145 hp | exact lkM_146 hp | exact lkM_139 hp | exact lkM_140 hp | exact lkM_141 hp | exact lkM_142 hp | exact lkM_143 hp); rfl) rfl ?_
  refine j_putf (pc := 31) dX7_next_31 fl_X7_89 (jfit_i _) (by apply lkE; (with_reducible first | exact lkM_129 hp | exact lkM_133 hp | exact lkM_144 hp | exact lkM_134 hp | exact lkM_130 hp | exact lkM_131 hp | exact lkM_132 hp | exact lkM_135 hp | exact lkM_136 hp | exact lkM_137 hp | exact lkM_138 hp | exact lkM_145 hp | exact lkM_146 hp | exact lkM_139 hp | exact lkM_140 hp | exact lkM_141 hp | exact lkM_142 hp | exact lkM_143 hp); rfl) (upM_129 hp) ?_
  refine j_aload_n (pc := 34) dX7_next_34 rfl ?_
  refine j_aload_n (pc := 35) dX7_next_35 rfl ?_
  refine j_getf (pc := 36) dX7_next_36 fl_X7_82 (by apply lkE; (with_reducible first | exact lkM_129 hp | exact lkM_133 hp | exact lkM_144 hp | exact lkM_134 hp | exact lkM_130 hp | exact lkM_131 hp | exact lkM_132 hp | exact lkM_135 hp | exact lkM_136 hp | exact lkM_137 hp | exact lkM_138 hp | exact lkM_145 hp | exact lkM_146 hp | exact lkM_139 hp | exact lkM_140 hp | exact lkM_141 hp | exact lkM_142 hp | exact lkM_143 hp); rfl) rfl ?_
  refine j_v1 (pc := 39) (ci := 7) dX7_next_39 mc_X7_letterAt ml_X7_85 im_X7_letterAt se_X7_letterAt rfl rfl (by apply lkE; (with_reducible first | exact lkM_129 hp | exact lkM_133 hp | exact lkM_144 hp | exact lkM_134 hp | exact lkM_130 hp | exact lkM_131 hp | exact lkM_132 hp | exact lkM_135 hp | exact lkM_136 hp | exact lkM_137 hp | exact lkM_138 hp | exact lkM_145 hp | exact lkM_146 hp | exact lkM_139 hp | exact lkM_140 hp | exact lkM_141 hp | exact lkM_142 hp | exact lkM_143 hp); rfl) (by omega) (m_letterAt hp htn hL (by omega)) (Nat.le_of_ble_eq_true rfl) ?_
  by_cases hpl : L ≤ p
  · rw [laM_out (by omega)]
    refine j_istore_n (pc := 42) dX7_next_42 rfl (Nat.le_of_ble_eq_true rfl) rfl ?_
    refine j_aload_n (pc := 43) dX7_next_43 rfl ?_
    refine j_iconst (pc := 44) dX7_next_44 kc_0 ?_
    refine j_putf (pc := 45) dX7_next_45 fl_X7_92 (jfit_i _) (by apply lkE; (with_reducible first | exact lkM_129 hp | exact lkM_133 hp | exact lkM_144 hp | exact lkM_134 hp | exact lkM_130 hp | exact lkM_131 hp | exact lkM_132 hp | exact lkM_135 hp | exact lkM_136 hp | exact lkM_137 hp | exact lkM_138 hp | exact lkM_145 hp | exact lkM_146 hp | exact lkM_139 hp | exact lkM_140 hp | exact lkM_141 hp | exact lkM_142 hp | exact lkM_143 hp); rfl) (upM_129 hp) ?_
    refine j_iload_n (pc := 48) dX7_next_48 rfl ?_
    refine j_if_ge (pc := 49) (tgt := 60) dX7_next_49 rfl (fun zc49 => absurd zc49 (show ¬ 0 ≤ (-1 : Int32) by decide)) (fun _ => ?_)
    refine j_aload_n (pc := 52) dX7_next_52 rfl ?_
    refine j_iconst (pc := 53) dX7_next_53 kc_0 ?_
    refine j_putf (pc := 54) dX7_next_54 fl_X7_95 (jfit_i _) (by apply lkE; (with_reducible first | exact lkM_129 hp | exact lkM_133 hp | exact lkM_144 hp | exact lkM_134 hp | exact lkM_130 hp | exact lkM_131 hp | exact lkM_132 hp | exact lkM_135 hp | exact lkM_136 hp | exact lkM_137 hp | exact lkM_138 hp | exact lkM_145 hp | exact lkM_146 hp | exact lkM_139 hp | exact lkM_140 hp | exact lkM_141 hp | exact lkM_142 hp | exact lkM_143 hp); rfl) (upM_129 hp) ?_
    refine j_goto (pc := 57) (tgt := 237) dX7_next_57 rfl ?_
    refine j_return (pc := 237) dX7_next_237 rfl ?_
    exact ⟨rfl, by rw [nxM, if_pos hpl]⟩
  · rw [laM_in (by omega)]
    have hpx := hx p (by omega)
    refine j_istore_n (pc := 42) dX7_next_42 rfl (Nat.le_of_ble_eq_true rfl) rfl ?_
    refine j_aload_n (pc := 43) dX7_next_43 rfl ?_
    refine j_iconst (pc := 44) dX7_next_44 kc_0 ?_
    refine j_putf (pc := 45) dX7_next_45 fl_X7_92 (jfit_i _) (by apply lkE; (with_reducible first | exact lkM_129 hp | exact lkM_133 hp | exact lkM_144 hp | exact lkM_134 hp | exact lkM_130 hp | exact lkM_131 hp | exact lkM_132 hp | exact lkM_135 hp | exact lkM_136 hp | exact lkM_137 hp | exact lkM_138 hp | exact lkM_145 hp | exact lkM_146 hp | exact lkM_139 hp | exact lkM_140 hp | exact lkM_141 hp | exact lkM_142 hp | exact lkM_143 hp); rfl) (upM_129 hp) ?_
    refine j_iload_n (pc := 48) dX7_next_48 rfl ?_
    refine j_if_ge (pc := 49) (tgt := 60) dX7_next_49 rfl (fun _ => ?_) (fun zc49 => absurd hpx zc49)
    refine j_iload_n (pc := 60) dX7_next_60 rfl ?_
    refine j_s1 (pc := 61) dX7_next_61 mc_X7_isFigure ml_X7_98 sm_X7_isFigure (by omega) (m_isFigure) (Nat.le_of_ble_eq_true rfl) ?_
    refine j_beq (pc := 64) (tgt := 173) dX7_next_64 rfl (fun zc64 => ?_) (fun zc64 => ?_)
    · refine j_aload_n (pc := 173) dX7_next_173 rfl ?_
      refine j_iload_n (pc := 174) dX7_next_174 rfl ?_
      refine j_bipush (pc := 175) dX7_next_175 kb_100 ?_
      refine j_icmp_eq (pc := 177) (tgt := 204) dX7_next_177 rfl (fun zc177 => ?_) (fun zc177 => ?_)
      · refine j_iconst (pc := 204) dX7_next_204 kc_1 ?_
        refine j_goto (pc := 205) (tgt := 219) dX7_next_205 rfl ?_
        refine j_putf (pc := 219) dX7_next_219 fl_X7_95 (jfit_i _) (by apply lkE; (with_reducible first | exact lkM_129 hp | exact lkM_133 hp | exact lkM_144 hp | exact lkM_134 hp | exact lkM_130 hp | exact lkM_131 hp | exact lkM_132 hp | exact lkM_135 hp | exact lkM_136 hp | exact lkM_137 hp | exact lkM_138 hp | exact lkM_145 hp | exact lkM_146 hp | exact lkM_139 hp | exact lkM_140 hp | exact lkM_141 hp | exact lkM_142 hp | exact lkM_143 hp); rfl) (upM_129 hp) ?_
        refine j_aload_n (pc := 222) dX7_next_222 rfl ?_
        refine j_iload_n (pc := 223) dX7_next_223 rfl ?_
        refine j_putf (pc := 224) dX7_next_224 fl_X7_92 (jfit_i _) (by apply lkE; (with_reducible first | exact lkM_129 hp | exact lkM_133 hp | exact lkM_144 hp | exact lkM_134 hp | exact lkM_130 hp | exact lkM_131 hp | exact lkM_132 hp | exact lkM_135 hp | exact lkM_136 hp | exact lkM_137 hp | exact lkM_138 hp | exact lkM_145 hp | exact lkM_146 hp | exact lkM_139 hp | exact lkM_140 hp | exact lkM_141 hp | exact lkM_142 hp | exact lkM_143 hp); rfl) (upM_129 hp) ?_
        refine j_aload_n (pc := 227) dX7_next_227 rfl ?_
        refine j_dup (pc := 228) dX7_next_228 rfl ?_
        refine j_getf (pc := 229) dX7_next_229 fl_X7_82 (by apply lkE; (with_reducible first | exact lkM_129 hp | exact lkM_133 hp | exact lkM_144 hp | exact lkM_134 hp | exact lkM_130 hp | exact lkM_131 hp | exact lkM_132 hp | exact lkM_135 hp | exact lkM_136 hp | exact lkM_137 hp | exact lkM_138 hp | exact lkM_145 hp | exact lkM_146 hp | exact lkM_139 hp | exact lkM_140 hp | exact lkM_141 hp | exact lkM_142 hp | exact lkM_143 hp); rfl) rfl ?_
        refine j_iconst (pc := 232) dX7_next_232 kc_1 ?_
        refine j_iadd (pc := 233) dX7_next_233 ?_
        refine j_putf (pc := 234) dX7_next_234 fl_X7_82 (jfit_i _) (by apply lkE; (with_reducible first | exact lkM_129 hp | exact lkM_133 hp | exact lkM_144 hp | exact lkM_134 hp | exact lkM_130 hp | exact lkM_131 hp | exact lkM_132 hp | exact lkM_135 hp | exact lkM_136 hp | exact lkM_137 hp | exact lkM_138 hp | exact lkM_145 hp | exact lkM_146 hp | exact lkM_139 hp | exact lkM_140 hp | exact lkM_141 hp | exact lkM_142 hp | exact lkM_143 hp); rfl) (upM_129 hp) ?_
        skip
        refine j_return (pc := 237) dX7_next_237 rfl ?_
        refine ⟨rfl, ?_⟩
        rw [nI_s1]
        rw [nxM, if_neg hpl, if_neg (fun e => by rw [zc64] at e; cases e)]
        first
          | (rw [show tkM (tx p) = 1 from (by unfold tkM; first | rw [if_pos zc177] | rw [if_neg zc177, if_pos zc183] | rw [if_neg zc177, if_neg zc183, if_pos zc189] | rw [if_neg zc177, if_neg zc183, if_neg zc189, if_pos zc195] | rw [if_neg zc177, if_neg zc183, if_neg zc189, if_neg zc195, if_pos zc201] | rw [if_neg zc177, if_neg zc183, if_neg zc189, if_neg zc195, if_neg zc201, if_pos zc211] | rw [if_neg zc177, if_neg zc183, if_neg zc189, if_neg zc195, if_neg zc201, if_neg zc211])] <;> rfl)
          | (rw [show tkM (tx p) = 3 from (by unfold tkM; first | rw [if_pos zc177] | rw [if_neg zc177, if_pos zc183] | rw [if_neg zc177, if_neg zc183, if_pos zc189] | rw [if_neg zc177, if_neg zc183, if_neg zc189, if_pos zc195] | rw [if_neg zc177, if_neg zc183, if_neg zc189, if_neg zc195, if_pos zc201] | rw [if_neg zc177, if_neg zc183, if_neg zc189, if_neg zc195, if_neg zc201, if_pos zc211] | rw [if_neg zc177, if_neg zc183, if_neg zc189, if_neg zc195, if_neg zc201, if_neg zc211])] <;> rfl)
          | (rw [show tkM (tx p) = 4 from (by unfold tkM; first | rw [if_pos zc177] | rw [if_neg zc177, if_pos zc183] | rw [if_neg zc177, if_neg zc183, if_pos zc189] | rw [if_neg zc177, if_neg zc183, if_neg zc189, if_pos zc195] | rw [if_neg zc177, if_neg zc183, if_neg zc189, if_neg zc195, if_pos zc201] | rw [if_neg zc177, if_neg zc183, if_neg zc189, if_neg zc195, if_neg zc201, if_pos zc211] | rw [if_neg zc177, if_neg zc183, if_neg zc189, if_neg zc195, if_neg zc201, if_neg zc211])] <;> rfl)
      · refine j_iload_n (pc := 180) dX7_next_180 rfl ?_
        refine j_bipush (pc := 181) dX7_next_181 kb_108 ?_
        refine j_icmp_eq (pc := 183) (tgt := 204) dX7_next_183 rfl (fun zc183 => ?_) (fun zc183 => ?_)
        · refine j_iconst (pc := 204) dX7_next_204 kc_1 ?_
          refine j_goto (pc := 205) (tgt := 219) dX7_next_205 rfl ?_
          refine j_putf (pc := 219) dX7_next_219 fl_X7_95 (jfit_i _) (by apply lkE; (with_reducible first | exact lkM_129 hp | exact lkM_133 hp | exact lkM_144 hp | exact lkM_134 hp | exact lkM_130 hp | exact lkM_131 hp | exact lkM_132 hp | exact lkM_135 hp | exact lkM_136 hp | exact lkM_137 hp | exact lkM_138 hp | exact lkM_145 hp | exact lkM_146 hp | exact lkM_139 hp | exact lkM_140 hp | exact lkM_141 hp | exact lkM_142 hp | exact lkM_143 hp); rfl) (upM_129 hp) ?_
          refine j_aload_n (pc := 222) dX7_next_222 rfl ?_
          refine j_iload_n (pc := 223) dX7_next_223 rfl ?_
          refine j_putf (pc := 224) dX7_next_224 fl_X7_92 (jfit_i _) (by apply lkE; (with_reducible first | exact lkM_129 hp | exact lkM_133 hp | exact lkM_144 hp | exact lkM_134 hp | exact lkM_130 hp | exact lkM_131 hp | exact lkM_132 hp | exact lkM_135 hp | exact lkM_136 hp | exact lkM_137 hp | exact lkM_138 hp | exact lkM_145 hp | exact lkM_146 hp | exact lkM_139 hp | exact lkM_140 hp | exact lkM_141 hp | exact lkM_142 hp | exact lkM_143 hp); rfl) (upM_129 hp) ?_
          refine j_aload_n (pc := 227) dX7_next_227 rfl ?_
          refine j_dup (pc := 228) dX7_next_228 rfl ?_
          refine j_getf (pc := 229) dX7_next_229 fl_X7_82 (by apply lkE; (with_reducible first | exact lkM_129 hp | exact lkM_133 hp | exact lkM_144 hp | exact lkM_134 hp | exact lkM_130 hp | exact lkM_131 hp | exact lkM_132 hp | exact lkM_135 hp | exact lkM_136 hp | exact lkM_137 hp | exact lkM_138 hp | exact lkM_145 hp | exact lkM_146 hp | exact lkM_139 hp | exact lkM_140 hp | exact lkM_141 hp | exact lkM_142 hp | exact lkM_143 hp); rfl) rfl ?_
          refine j_iconst (pc := 232) dX7_next_232 kc_1 ?_
          refine j_iadd (pc := 233) dX7_next_233 ?_
          refine j_putf (pc := 234) dX7_next_234 fl_X7_82 (jfit_i _) (by apply lkE; (with_reducible first | exact lkM_129 hp | exact lkM_133 hp | exact lkM_144 hp | exact lkM_134 hp | exact lkM_130 hp | exact lkM_131 hp | exact lkM_132 hp | exact lkM_135 hp | exact lkM_136 hp | exact lkM_137 hp | exact lkM_138 hp | exact lkM_145 hp | exact lkM_146 hp | exact lkM_139 hp | exact lkM_140 hp | exact lkM_141 hp | exact lkM_142 hp | exact lkM_143 hp); rfl) (upM_129 hp) ?_
          skip
          refine j_return (pc := 237) dX7_next_237 rfl ?_
          refine ⟨rfl, ?_⟩
          rw [nI_s1]
          rw [nxM, if_neg hpl, if_neg (fun e => by rw [zc64] at e; cases e)]
          first
            | (rw [show tkM (tx p) = 1 from (by unfold tkM; first | rw [if_pos zc177] | rw [if_neg zc177, if_pos zc183] | rw [if_neg zc177, if_neg zc183, if_pos zc189] | rw [if_neg zc177, if_neg zc183, if_neg zc189, if_pos zc195] | rw [if_neg zc177, if_neg zc183, if_neg zc189, if_neg zc195, if_pos zc201] | rw [if_neg zc177, if_neg zc183, if_neg zc189, if_neg zc195, if_neg zc201, if_pos zc211] | rw [if_neg zc177, if_neg zc183, if_neg zc189, if_neg zc195, if_neg zc201, if_neg zc211])] <;> rfl)
            | (rw [show tkM (tx p) = 3 from (by unfold tkM; first | rw [if_pos zc177] | rw [if_neg zc177, if_pos zc183] | rw [if_neg zc177, if_neg zc183, if_pos zc189] | rw [if_neg zc177, if_neg zc183, if_neg zc189, if_pos zc195] | rw [if_neg zc177, if_neg zc183, if_neg zc189, if_neg zc195, if_pos zc201] | rw [if_neg zc177, if_neg zc183, if_neg zc189, if_neg zc195, if_neg zc201, if_pos zc211] | rw [if_neg zc177, if_neg zc183, if_neg zc189, if_neg zc195, if_neg zc201, if_neg zc211])] <;> rfl)
            | (rw [show tkM (tx p) = 4 from (by unfold tkM; first | rw [if_pos zc177] | rw [if_neg zc177, if_pos zc183] | rw [if_neg zc177, if_neg zc183, if_pos zc189] | rw [if_neg zc177, if_neg zc183, if_neg zc189, if_pos zc195] | rw [if_neg zc177, if_neg zc183, if_neg zc189, if_neg zc195, if_pos zc201] | rw [if_neg zc177, if_neg zc183, if_neg zc189, if_neg zc195, if_neg zc201, if_pos zc211] | rw [if_neg zc177, if_neg zc183, if_neg zc189, if_neg zc195, if_neg zc201, if_neg zc211])] <;> rfl)
        · refine j_iload_n (pc := 186) dX7_next_186 rfl ?_
          refine j_bipush (pc := 187) dX7_next_187 kb_98 ?_
          refine j_icmp_eq (pc := 189) (tgt := 204) dX7_next_189 rfl (fun zc189 => ?_) (fun zc189 => ?_)
          · refine j_iconst (pc := 204) dX7_next_204 kc_1 ?_
            refine j_goto (pc := 205) (tgt := 219) dX7_next_205 rfl ?_
            refine j_putf (pc := 219) dX7_next_219 fl_X7_95 (jfit_i _) (by apply lkE; (with_reducible first | exact lkM_129 hp | exact lkM_133 hp | exact lkM_144 hp | exact lkM_134 hp | exact lkM_130 hp | exact lkM_131 hp | exact lkM_132 hp | exact lkM_135 hp | exact lkM_136 hp | exact lkM_137 hp | exact lkM_138 hp | exact lkM_145 hp | exact lkM_146 hp | exact lkM_139 hp | exact lkM_140 hp | exact lkM_141 hp | exact lkM_142 hp | exact lkM_143 hp); rfl) (upM_129 hp) ?_
            refine j_aload_n (pc := 222) dX7_next_222 rfl ?_
            refine j_iload_n (pc := 223) dX7_next_223 rfl ?_
            refine j_putf (pc := 224) dX7_next_224 fl_X7_92 (jfit_i _) (by apply lkE; (with_reducible first | exact lkM_129 hp | exact lkM_133 hp | exact lkM_144 hp | exact lkM_134 hp | exact lkM_130 hp | exact lkM_131 hp | exact lkM_132 hp | exact lkM_135 hp | exact lkM_136 hp | exact lkM_137 hp | exact lkM_138 hp | exact lkM_145 hp | exact lkM_146 hp | exact lkM_139 hp | exact lkM_140 hp | exact lkM_141 hp | exact lkM_142 hp | exact lkM_143 hp); rfl) (upM_129 hp) ?_
            refine j_aload_n (pc := 227) dX7_next_227 rfl ?_
            refine j_dup (pc := 228) dX7_next_228 rfl ?_
            refine j_getf (pc := 229) dX7_next_229 fl_X7_82 (by apply lkE; (with_reducible first | exact lkM_129 hp | exact lkM_133 hp | exact lkM_144 hp | exact lkM_134 hp | exact lkM_130 hp | exact lkM_131 hp | exact lkM_132 hp | exact lkM_135 hp | exact lkM_136 hp | exact lkM_137 hp | exact lkM_138 hp | exact lkM_145 hp | exact lkM_146 hp | exact lkM_139 hp | exact lkM_140 hp | exact lkM_141 hp | exact lkM_142 hp | exact lkM_143 hp); rfl) rfl ?_
            refine j_iconst (pc := 232) dX7_next_232 kc_1 ?_
            refine j_iadd (pc := 233) dX7_next_233 ?_
            refine j_putf (pc := 234) dX7_next_234 fl_X7_82 (jfit_i _) (by apply lkE; (with_reducible first | exact lkM_129 hp | exact lkM_133 hp | exact lkM_144 hp | exact lkM_134 hp | exact lkM_130 hp | exact lkM_131 hp | exact lkM_132 hp | exact lkM_135 hp | exact lkM_136 hp | exact lkM_137 hp | exact lkM_138 hp | exact lkM_145 hp | exact lkM_146 hp | exact lkM_139 hp | exact lkM_140 hp | exact lkM_141 hp | exact lkM_142 hp | exact lkM_143 hp); rfl) (upM_129 hp) ?_
            skip
            refine j_return (pc := 237) dX7_next_237 rfl ?_
            refine ⟨rfl, ?_⟩
            rw [nI_s1]
            rw [nxM, if_neg hpl, if_neg (fun e => by rw [zc64] at e; cases e)]
            first
              | (rw [show tkM (tx p) = 1 from (by unfold tkM; first | rw [if_pos zc177] | rw [if_neg zc177, if_pos zc183] | rw [if_neg zc177, if_neg zc183, if_pos zc189] | rw [if_neg zc177, if_neg zc183, if_neg zc189, if_pos zc195] | rw [if_neg zc177, if_neg zc183, if_neg zc189, if_neg zc195, if_pos zc201] | rw [if_neg zc177, if_neg zc183, if_neg zc189, if_neg zc195, if_neg zc201, if_pos zc211] | rw [if_neg zc177, if_neg zc183, if_neg zc189, if_neg zc195, if_neg zc201, if_neg zc211])] <;> rfl)
              | (rw [show tkM (tx p) = 3 from (by unfold tkM; first | rw [if_pos zc177] | rw [if_neg zc177, if_pos zc183] | rw [if_neg zc177, if_neg zc183, if_pos zc189] | rw [if_neg zc177, if_neg zc183, if_neg zc189, if_pos zc195] | rw [if_neg zc177, if_neg zc183, if_neg zc189, if_neg zc195, if_pos zc201] | rw [if_neg zc177, if_neg zc183, if_neg zc189, if_neg zc195, if_neg zc201, if_pos zc211] | rw [if_neg zc177, if_neg zc183, if_neg zc189, if_neg zc195, if_neg zc201, if_neg zc211])] <;> rfl)
              | (rw [show tkM (tx p) = 4 from (by unfold tkM; first | rw [if_pos zc177] | rw [if_neg zc177, if_pos zc183] | rw [if_neg zc177, if_neg zc183, if_pos zc189] | rw [if_neg zc177, if_neg zc183, if_neg zc189, if_pos zc195] | rw [if_neg zc177, if_neg zc183, if_neg zc189, if_neg zc195, if_pos zc201] | rw [if_neg zc177, if_neg zc183, if_neg zc189, if_neg zc195, if_neg zc201, if_pos zc211] | rw [if_neg zc177, if_neg zc183, if_neg zc189, if_neg zc195, if_neg zc201, if_neg zc211])] <;> rfl)
          · refine j_iload_n (pc := 192) dX7_next_192 rfl ?_
            refine j_bipush (pc := 193) dX7_next_193 kb_112 ?_
            refine j_icmp_eq (pc := 195) (tgt := 204) dX7_next_195 rfl (fun zc195 => ?_) (fun zc195 => ?_)
            · refine j_iconst (pc := 204) dX7_next_204 kc_1 ?_
              refine j_goto (pc := 205) (tgt := 219) dX7_next_205 rfl ?_
              refine j_putf (pc := 219) dX7_next_219 fl_X7_95 (jfit_i _) (by apply lkE; (with_reducible first | exact lkM_129 hp | exact lkM_133 hp | exact lkM_144 hp | exact lkM_134 hp | exact lkM_130 hp | exact lkM_131 hp | exact lkM_132 hp | exact lkM_135 hp | exact lkM_136 hp | exact lkM_137 hp | exact lkM_138 hp | exact lkM_145 hp | exact lkM_146 hp | exact lkM_139 hp | exact lkM_140 hp | exact lkM_141 hp | exact lkM_142 hp | exact lkM_143 hp); rfl) (upM_129 hp) ?_
              refine j_aload_n (pc := 222) dX7_next_222 rfl ?_
              refine j_iload_n (pc := 223) dX7_next_223 rfl ?_
              refine j_putf (pc := 224) dX7_next_224 fl_X7_92 (jfit_i _) (by apply lkE; (with_reducible first | exact lkM_129 hp | exact lkM_133 hp | exact lkM_144 hp | exact lkM_134 hp | exact lkM_130 hp | exact lkM_131 hp | exact lkM_132 hp | exact lkM_135 hp | exact lkM_136 hp | exact lkM_137 hp | exact lkM_138 hp | exact lkM_145 hp | exact lkM_146 hp | exact lkM_139 hp | exact lkM_140 hp | exact lkM_141 hp | exact lkM_142 hp | exact lkM_143 hp); rfl) (upM_129 hp) ?_
              refine j_aload_n (pc := 227) dX7_next_227 rfl ?_
              refine j_dup (pc := 228) dX7_next_228 rfl ?_
              refine j_getf (pc := 229) dX7_next_229 fl_X7_82 (by apply lkE; (with_reducible first | exact lkM_129 hp | exact lkM_133 hp | exact lkM_144 hp | exact lkM_134 hp | exact lkM_130 hp | exact lkM_131 hp | exact lkM_132 hp | exact lkM_135 hp | exact lkM_136 hp | exact lkM_137 hp | exact lkM_138 hp | exact lkM_145 hp | exact lkM_146 hp | exact lkM_139 hp | exact lkM_140 hp | exact lkM_141 hp | exact lkM_142 hp | exact lkM_143 hp); rfl) rfl ?_
              refine j_iconst (pc := 232) dX7_next_232 kc_1 ?_
              refine j_iadd (pc := 233) dX7_next_233 ?_
              refine j_putf (pc := 234) dX7_next_234 fl_X7_82 (jfit_i _) (by apply lkE; (with_reducible first | exact lkM_129 hp | exact lkM_133 hp | exact lkM_144 hp | exact lkM_134 hp | exact lkM_130 hp | exact lkM_131 hp | exact lkM_132 hp | exact lkM_135 hp | exact lkM_136 hp | exact lkM_137 hp | exact lkM_138 hp | exact lkM_145 hp | exact lkM_146 hp | exact lkM_139 hp | exact lkM_140 hp | exact lkM_141 hp | exact lkM_142 hp | exact lkM_143 hp); rfl) (upM_129 hp) ?_
              skip
              refine j_return (pc := 237) dX7_next_237 rfl ?_
              refine ⟨rfl, ?_⟩
              rw [nI_s1]
              rw [nxM, if_neg hpl, if_neg (fun e => by rw [zc64] at e; cases e)]
              first
                | (rw [show tkM (tx p) = 1 from (by unfold tkM; first | rw [if_pos zc177] | rw [if_neg zc177, if_pos zc183] | rw [if_neg zc177, if_neg zc183, if_pos zc189] | rw [if_neg zc177, if_neg zc183, if_neg zc189, if_pos zc195] | rw [if_neg zc177, if_neg zc183, if_neg zc189, if_neg zc195, if_pos zc201] | rw [if_neg zc177, if_neg zc183, if_neg zc189, if_neg zc195, if_neg zc201, if_pos zc211] | rw [if_neg zc177, if_neg zc183, if_neg zc189, if_neg zc195, if_neg zc201, if_neg zc211])] <;> rfl)
                | (rw [show tkM (tx p) = 3 from (by unfold tkM; first | rw [if_pos zc177] | rw [if_neg zc177, if_pos zc183] | rw [if_neg zc177, if_neg zc183, if_pos zc189] | rw [if_neg zc177, if_neg zc183, if_neg zc189, if_pos zc195] | rw [if_neg zc177, if_neg zc183, if_neg zc189, if_neg zc195, if_pos zc201] | rw [if_neg zc177, if_neg zc183, if_neg zc189, if_neg zc195, if_neg zc201, if_pos zc211] | rw [if_neg zc177, if_neg zc183, if_neg zc189, if_neg zc195, if_neg zc201, if_neg zc211])] <;> rfl)
                | (rw [show tkM (tx p) = 4 from (by unfold tkM; first | rw [if_pos zc177] | rw [if_neg zc177, if_pos zc183] | rw [if_neg zc177, if_neg zc183, if_pos zc189] | rw [if_neg zc177, if_neg zc183, if_neg zc189, if_pos zc195] | rw [if_neg zc177, if_neg zc183, if_neg zc189, if_neg zc195, if_pos zc201] | rw [if_neg zc177, if_neg zc183, if_neg zc189, if_neg zc195, if_neg zc201, if_pos zc211] | rw [if_neg zc177, if_neg zc183, if_neg zc189, if_neg zc195, if_neg zc201, if_neg zc211])] <;> rfl)
            · refine j_iload_n (pc := 198) dX7_next_198 rfl ?_
              refine j_bipush (pc := 199) dX7_next_199 kb_114 ?_
              refine j_icmp_ne (pc := 201) (tgt := 208) dX7_next_201 rfl (fun zc201 => ?_) (fun zc201 => ?_)
              · refine j_iload_n (pc := 208) dX7_next_208 rfl ?_
                refine j_bipush (pc := 209) dX7_next_209 kb_59 ?_
                refine j_icmp_ne (pc := 211) (tgt := 218) dX7_next_211 rfl (fun zc211 => ?_) (fun zc211 => ?_)
                · refine j_iconst (pc := 218) dX7_next_218 kc_4 ?_
                  refine j_putf (pc := 219) dX7_next_219 fl_X7_95 (jfit_i _) (by apply lkE; (with_reducible first | exact lkM_129 hp | exact lkM_133 hp | exact lkM_144 hp | exact lkM_134 hp | exact lkM_130 hp | exact lkM_131 hp | exact lkM_132 hp | exact lkM_135 hp | exact lkM_136 hp | exact lkM_137 hp | exact lkM_138 hp | exact lkM_145 hp | exact lkM_146 hp | exact lkM_139 hp | exact lkM_140 hp | exact lkM_141 hp | exact lkM_142 hp | exact lkM_143 hp); rfl) (upM_129 hp) ?_
                  refine j_aload_n (pc := 222) dX7_next_222 rfl ?_
                  refine j_iload_n (pc := 223) dX7_next_223 rfl ?_
                  refine j_putf (pc := 224) dX7_next_224 fl_X7_92 (jfit_i _) (by apply lkE; (with_reducible first | exact lkM_129 hp | exact lkM_133 hp | exact lkM_144 hp | exact lkM_134 hp | exact lkM_130 hp | exact lkM_131 hp | exact lkM_132 hp | exact lkM_135 hp | exact lkM_136 hp | exact lkM_137 hp | exact lkM_138 hp | exact lkM_145 hp | exact lkM_146 hp | exact lkM_139 hp | exact lkM_140 hp | exact lkM_141 hp | exact lkM_142 hp | exact lkM_143 hp); rfl) (upM_129 hp) ?_
                  refine j_aload_n (pc := 227) dX7_next_227 rfl ?_
                  refine j_dup (pc := 228) dX7_next_228 rfl ?_
                  refine j_getf (pc := 229) dX7_next_229 fl_X7_82 (by apply lkE; (with_reducible first | exact lkM_129 hp | exact lkM_133 hp | exact lkM_144 hp | exact lkM_134 hp | exact lkM_130 hp | exact lkM_131 hp | exact lkM_132 hp | exact lkM_135 hp | exact lkM_136 hp | exact lkM_137 hp | exact lkM_138 hp | exact lkM_145 hp | exact lkM_146 hp | exact lkM_139 hp | exact lkM_140 hp | exact lkM_141 hp | exact lkM_142 hp | exact lkM_143 hp); rfl) rfl ?_
                  refine j_iconst (pc := 232) dX7_next_232 kc_1 ?_
                  refine j_iadd (pc := 233) dX7_next_233 ?_
                  refine j_putf (pc := 234) dX7_next_234 fl_X7_82 (jfit_i _) (by apply lkE; (with_reducible first | exact lkM_129 hp | exact lkM_133 hp | exact lkM_144 hp | exact lkM_134 hp | exact lkM_130 hp | exact lkM_131 hp | exact lkM_132 hp | exact lkM_135 hp | exact lkM_136 hp | exact lkM_137 hp | exact lkM_138 hp | exact lkM_145 hp | exact lkM_146 hp | exact lkM_139 hp | exact lkM_140 hp | exact lkM_141 hp | exact lkM_142 hp | exact lkM_143 hp); rfl) (upM_129 hp) ?_
                  skip
                  refine j_return (pc := 237) dX7_next_237 rfl ?_
                  refine ⟨rfl, ?_⟩
                  rw [nI_s1]
                  rw [nxM, if_neg hpl, if_neg (fun e => by rw [zc64] at e; cases e)]
                  first
                    | (rw [show tkM (tx p) = 1 from (by unfold tkM; first | rw [if_pos zc177] | rw [if_neg zc177, if_pos zc183] | rw [if_neg zc177, if_neg zc183, if_pos zc189] | rw [if_neg zc177, if_neg zc183, if_neg zc189, if_pos zc195] | rw [if_neg zc177, if_neg zc183, if_neg zc189, if_neg zc195, if_pos zc201] | rw [if_neg zc177, if_neg zc183, if_neg zc189, if_neg zc195, if_neg zc201, if_pos zc211] | rw [if_neg zc177, if_neg zc183, if_neg zc189, if_neg zc195, if_neg zc201, if_neg zc211])] <;> rfl)
                    | (rw [show tkM (tx p) = 3 from (by unfold tkM; first | rw [if_pos zc177] | rw [if_neg zc177, if_pos zc183] | rw [if_neg zc177, if_neg zc183, if_pos zc189] | rw [if_neg zc177, if_neg zc183, if_neg zc189, if_pos zc195] | rw [if_neg zc177, if_neg zc183, if_neg zc189, if_neg zc195, if_pos zc201] | rw [if_neg zc177, if_neg zc183, if_neg zc189, if_neg zc195, if_neg zc201, if_pos zc211] | rw [if_neg zc177, if_neg zc183, if_neg zc189, if_neg zc195, if_neg zc201, if_neg zc211])] <;> rfl)
                    | (rw [show tkM (tx p) = 4 from (by unfold tkM; first | rw [if_pos zc177] | rw [if_neg zc177, if_pos zc183] | rw [if_neg zc177, if_neg zc183, if_pos zc189] | rw [if_neg zc177, if_neg zc183, if_neg zc189, if_pos zc195] | rw [if_neg zc177, if_neg zc183, if_neg zc189, if_neg zc195, if_pos zc201] | rw [if_neg zc177, if_neg zc183, if_neg zc189, if_neg zc195, if_neg zc201, if_pos zc211] | rw [if_neg zc177, if_neg zc183, if_neg zc189, if_neg zc195, if_neg zc201, if_neg zc211])] <;> rfl)
                · refine j_iconst (pc := 214) dX7_next_214 kc_3 ?_
                  refine j_goto (pc := 215) (tgt := 219) dX7_next_215 rfl ?_
                  refine j_putf (pc := 219) dX7_next_219 fl_X7_95 (jfit_i _) (by apply lkE; (with_reducible first | exact lkM_129 hp | exact lkM_133 hp | exact lkM_144 hp | exact lkM_134 hp | exact lkM_130 hp | exact lkM_131 hp | exact lkM_132 hp | exact lkM_135 hp | exact lkM_136 hp | exact lkM_137 hp | exact lkM_138 hp | exact lkM_145 hp | exact lkM_146 hp | exact lkM_139 hp | exact lkM_140 hp | exact lkM_141 hp | exact lkM_142 hp | exact lkM_143 hp); rfl) (upM_129 hp) ?_
                  refine j_aload_n (pc := 222) dX7_next_222 rfl ?_
                  refine j_iload_n (pc := 223) dX7_next_223 rfl ?_
                  refine j_putf (pc := 224) dX7_next_224 fl_X7_92 (jfit_i _) (by apply lkE; (with_reducible first | exact lkM_129 hp | exact lkM_133 hp | exact lkM_144 hp | exact lkM_134 hp | exact lkM_130 hp | exact lkM_131 hp | exact lkM_132 hp | exact lkM_135 hp | exact lkM_136 hp | exact lkM_137 hp | exact lkM_138 hp | exact lkM_145 hp | exact lkM_146 hp | exact lkM_139 hp | exact lkM_140 hp | exact lkM_141 hp | exact lkM_142 hp | exact lkM_143 hp); rfl) (upM_129 hp) ?_
                  refine j_aload_n (pc := 227) dX7_next_227 rfl ?_
                  refine j_dup (pc := 228) dX7_next_228 rfl ?_
                  refine j_getf (pc := 229) dX7_next_229 fl_X7_82 (by apply lkE; (with_reducible first | exact lkM_129 hp | exact lkM_133 hp | exact lkM_144 hp | exact lkM_134 hp | exact lkM_130 hp | exact lkM_131 hp | exact lkM_132 hp | exact lkM_135 hp | exact lkM_136 hp | exact lkM_137 hp | exact lkM_138 hp | exact lkM_145 hp | exact lkM_146 hp | exact lkM_139 hp | exact lkM_140 hp | exact lkM_141 hp | exact lkM_142 hp | exact lkM_143 hp); rfl) rfl ?_
                  refine j_iconst (pc := 232) dX7_next_232 kc_1 ?_
                  refine j_iadd (pc := 233) dX7_next_233 ?_
                  refine j_putf (pc := 234) dX7_next_234 fl_X7_82 (jfit_i _) (by apply lkE; (with_reducible first | exact lkM_129 hp | exact lkM_133 hp | exact lkM_144 hp | exact lkM_134 hp | exact lkM_130 hp | exact lkM_131 hp | exact lkM_132 hp | exact lkM_135 hp | exact lkM_136 hp | exact lkM_137 hp | exact lkM_138 hp | exact lkM_145 hp | exact lkM_146 hp | exact lkM_139 hp | exact lkM_140 hp | exact lkM_141 hp | exact lkM_142 hp | exact lkM_143 hp); rfl) (upM_129 hp) ?_
                  skip
                  refine j_return (pc := 237) dX7_next_237 rfl ?_
                  refine ⟨rfl, ?_⟩
                  rw [nI_s1]
                  rw [nxM, if_neg hpl, if_neg (fun e => by rw [zc64] at e; cases e)]
                  first
                    | (rw [show tkM (tx p) = 1 from (by unfold tkM; first | rw [if_pos zc177] | rw [if_neg zc177, if_pos zc183] | rw [if_neg zc177, if_neg zc183, if_pos zc189] | rw [if_neg zc177, if_neg zc183, if_neg zc189, if_pos zc195] | rw [if_neg zc177, if_neg zc183, if_neg zc189, if_neg zc195, if_pos zc201] | rw [if_neg zc177, if_neg zc183, if_neg zc189, if_neg zc195, if_neg zc201, if_pos zc211] | rw [if_neg zc177, if_neg zc183, if_neg zc189, if_neg zc195, if_neg zc201, if_neg zc211])] <;> rfl)
                    | (rw [show tkM (tx p) = 3 from (by unfold tkM; first | rw [if_pos zc177] | rw [if_neg zc177, if_pos zc183] | rw [if_neg zc177, if_neg zc183, if_pos zc189] | rw [if_neg zc177, if_neg zc183, if_neg zc189, if_pos zc195] | rw [if_neg zc177, if_neg zc183, if_neg zc189, if_neg zc195, if_pos zc201] | rw [if_neg zc177, if_neg zc183, if_neg zc189, if_neg zc195, if_neg zc201, if_pos zc211] | rw [if_neg zc177, if_neg zc183, if_neg zc189, if_neg zc195, if_neg zc201, if_neg zc211])] <;> rfl)
                    | (rw [show tkM (tx p) = 4 from (by unfold tkM; first | rw [if_pos zc177] | rw [if_neg zc177, if_pos zc183] | rw [if_neg zc177, if_neg zc183, if_pos zc189] | rw [if_neg zc177, if_neg zc183, if_neg zc189, if_pos zc195] | rw [if_neg zc177, if_neg zc183, if_neg zc189, if_neg zc195, if_pos zc201] | rw [if_neg zc177, if_neg zc183, if_neg zc189, if_neg zc195, if_neg zc201, if_pos zc211] | rw [if_neg zc177, if_neg zc183, if_neg zc189, if_neg zc195, if_neg zc201, if_neg zc211])] <;> rfl)
              · refine j_iconst (pc := 204) dX7_next_204 kc_1 ?_
                refine j_goto (pc := 205) (tgt := 219) dX7_next_205 rfl ?_
                refine j_putf (pc := 219) dX7_next_219 fl_X7_95 (jfit_i _) (by apply lkE; (with_reducible first | exact lkM_129 hp | exact lkM_133 hp | exact lkM_144 hp | exact lkM_134 hp | exact lkM_130 hp | exact lkM_131 hp | exact lkM_132 hp | exact lkM_135 hp | exact lkM_136 hp | exact lkM_137 hp | exact lkM_138 hp | exact lkM_145 hp | exact lkM_146 hp | exact lkM_139 hp | exact lkM_140 hp | exact lkM_141 hp | exact lkM_142 hp | exact lkM_143 hp); rfl) (upM_129 hp) ?_
                refine j_aload_n (pc := 222) dX7_next_222 rfl ?_
                refine j_iload_n (pc := 223) dX7_next_223 rfl ?_
                refine j_putf (pc := 224) dX7_next_224 fl_X7_92 (jfit_i _) (by apply lkE; (with_reducible first | exact lkM_129 hp | exact lkM_133 hp | exact lkM_144 hp | exact lkM_134 hp | exact lkM_130 hp | exact lkM_131 hp | exact lkM_132 hp | exact lkM_135 hp | exact lkM_136 hp | exact lkM_137 hp | exact lkM_138 hp | exact lkM_145 hp | exact lkM_146 hp | exact lkM_139 hp | exact lkM_140 hp | exact lkM_141 hp | exact lkM_142 hp | exact lkM_143 hp); rfl) (upM_129 hp) ?_
                refine j_aload_n (pc := 227) dX7_next_227 rfl ?_
                refine j_dup (pc := 228) dX7_next_228 rfl ?_
                refine j_getf (pc := 229) dX7_next_229 fl_X7_82 (by apply lkE; (with_reducible first | exact lkM_129 hp | exact lkM_133 hp | exact lkM_144 hp | exact lkM_134 hp | exact lkM_130 hp | exact lkM_131 hp | exact lkM_132 hp | exact lkM_135 hp | exact lkM_136 hp | exact lkM_137 hp | exact lkM_138 hp | exact lkM_145 hp | exact lkM_146 hp | exact lkM_139 hp | exact lkM_140 hp | exact lkM_141 hp | exact lkM_142 hp | exact lkM_143 hp); rfl) rfl ?_
                refine j_iconst (pc := 232) dX7_next_232 kc_1 ?_
                refine j_iadd (pc := 233) dX7_next_233 ?_
                refine j_putf (pc := 234) dX7_next_234 fl_X7_82 (jfit_i _) (by apply lkE; (with_reducible first | exact lkM_129 hp | exact lkM_133 hp | exact lkM_144 hp | exact lkM_134 hp | exact lkM_130 hp | exact lkM_131 hp | exact lkM_132 hp | exact lkM_135 hp | exact lkM_136 hp | exact lkM_137 hp | exact lkM_138 hp | exact lkM_145 hp | exact lkM_146 hp | exact lkM_139 hp | exact lkM_140 hp | exact lkM_141 hp | exact lkM_142 hp | exact lkM_143 hp); rfl) (upM_129 hp) ?_
                skip
                refine j_return (pc := 237) dX7_next_237 rfl ?_
                refine ⟨rfl, ?_⟩
                rw [nI_s1]
                rw [nxM, if_neg hpl, if_neg (fun e => by rw [zc64] at e; cases e)]
                first
                  | (rw [show tkM (tx p) = 1 from (by unfold tkM; first | rw [if_pos zc177] | rw [if_neg zc177, if_pos zc183] | rw [if_neg zc177, if_neg zc183, if_pos zc189] | rw [if_neg zc177, if_neg zc183, if_neg zc189, if_pos zc195] | rw [if_neg zc177, if_neg zc183, if_neg zc189, if_neg zc195, if_pos zc201] | rw [if_neg zc177, if_neg zc183, if_neg zc189, if_neg zc195, if_neg zc201, if_pos zc211] | rw [if_neg zc177, if_neg zc183, if_neg zc189, if_neg zc195, if_neg zc201, if_neg zc211])] <;> rfl)
                  | (rw [show tkM (tx p) = 3 from (by unfold tkM; first | rw [if_pos zc177] | rw [if_neg zc177, if_pos zc183] | rw [if_neg zc177, if_neg zc183, if_pos zc189] | rw [if_neg zc177, if_neg zc183, if_neg zc189, if_pos zc195] | rw [if_neg zc177, if_neg zc183, if_neg zc189, if_neg zc195, if_pos zc201] | rw [if_neg zc177, if_neg zc183, if_neg zc189, if_neg zc195, if_neg zc201, if_pos zc211] | rw [if_neg zc177, if_neg zc183, if_neg zc189, if_neg zc195, if_neg zc201, if_neg zc211])] <;> rfl)
                  | (rw [show tkM (tx p) = 4 from (by unfold tkM; first | rw [if_pos zc177] | rw [if_neg zc177, if_pos zc183] | rw [if_neg zc177, if_neg zc183, if_pos zc189] | rw [if_neg zc177, if_neg zc183, if_neg zc189, if_pos zc195] | rw [if_neg zc177, if_neg zc183, if_neg zc189, if_neg zc195, if_pos zc201] | rw [if_neg zc177, if_neg zc183, if_neg zc189, if_neg zc195, if_neg zc201, if_pos zc211] | rw [if_neg zc177, if_neg zc183, if_neg zc189, if_neg zc195, if_neg zc201, if_neg zc211])] <;> rfl)
    · have hn := nmM_ge tx (L - p) p 0
      refine ml_num hp htn hL (L - p) p 0 (by omega) ?_
      refine j_aload_n (pc := 133) dX7_next_133 rfl ?_
      refine j_aload_n (pc := 134) dX7_next_134 rfl ?_
      refine j_getf (pc := 135) dX7_next_135 fl_X7_92 (by apply lkE; (with_reducible first | exact lkM_129 hp | exact lkM_133 hp | exact lkM_144 hp | exact lkM_134 hp | exact lkM_130 hp | exact lkM_131 hp | exact lkM_132 hp | exact lkM_135 hp | exact lkM_136 hp | exact lkM_137 hp | exact lkM_138 hp | exact lkM_145 hp | exact lkM_146 hp | exact lkM_139 hp | exact lkM_140 hp | exact lkM_141 hp | exact lkM_142 hp | exact lkM_143 hp); rfl) rfl ?_
      refine j_bipush (pc := 138) dX7_next_138 kb_99 ?_
      refine j_icmp_gt (pc := 140) (tgt := 162) dX7_next_140 rfl (fun zc140 => ?_) (fun zc140 => ?_)
      · refine j_iconst (pc := 162) dX7_next_162 kc_4 ?_
        refine j_goto (pc := 163) (tgt := 167) dX7_next_163 rfl ?_
        refine j_putf (pc := 167) dX7_next_167 fl_X7_95 (jfit_i _) (by apply lkE; (with_reducible first | exact lkM_129 hp | exact lkM_133 hp | exact lkM_144 hp | exact lkM_134 hp | exact lkM_130 hp | exact lkM_131 hp | exact lkM_132 hp | exact lkM_135 hp | exact lkM_136 hp | exact lkM_137 hp | exact lkM_138 hp | exact lkM_145 hp | exact lkM_146 hp | exact lkM_139 hp | exact lkM_140 hp | exact lkM_141 hp | exact lkM_142 hp | exact lkM_143 hp); rfl) (upM_129 hp) ?_
        refine j_goto (pc := 170) (tgt := 237) dX7_next_170 rfl ?_
        refine j_return (pc := 237) dX7_next_237 rfl ?_
        refine ⟨rfl, ?_⟩
        rw [nxM, if_neg hpl, if_pos zc64]
        first
          | (rw [show bdM tx p (nmM tx (L - p) p 0).1 (nmM tx (L - p) p 0).2 = 4 from by unfold bdM; first | rw [if_pos zc140] | rw [if_neg zc140, if_pos zc146, if_neg zc159]] <;> rfl)
          | (rw [show bdM tx p (nmM tx (L - p) p 0).1 (nmM tx (L - p) p 0).2 = 2 from by unfold bdM; first | rw [if_neg zc140, if_neg zc146] | rw [if_neg zc140, if_pos zc146, if_pos zc159]] <;> rfl)
      · refine j_iload_n (pc := 143) dX7_next_143 rfl ?_
        refine j_bipush (pc := 144) dX7_next_144 kb_48 ?_
        refine j_icmp_ne (pc := 146) (tgt := 166) dX7_next_146 rfl (fun zc146 => ?_) (fun zc146 => ?_)
        · refine j_iconst (pc := 166) dX7_next_166 kc_2 ?_
          refine j_putf (pc := 167) dX7_next_167 fl_X7_95 (jfit_i _) (by apply lkE; (with_reducible first | exact lkM_129 hp | exact lkM_133 hp | exact lkM_144 hp | exact lkM_134 hp | exact lkM_130 hp | exact lkM_131 hp | exact lkM_132 hp | exact lkM_135 hp | exact lkM_136 hp | exact lkM_137 hp | exact lkM_138 hp | exact lkM_145 hp | exact lkM_146 hp | exact lkM_139 hp | exact lkM_140 hp | exact lkM_141 hp | exact lkM_142 hp | exact lkM_143 hp); rfl) (upM_129 hp) ?_
          refine j_goto (pc := 170) (tgt := 237) dX7_next_170 rfl ?_
          refine j_return (pc := 237) dX7_next_237 rfl ?_
          refine ⟨rfl, ?_⟩
          rw [nxM, if_neg hpl, if_pos zc64]
          first
            | (rw [show bdM tx p (nmM tx (L - p) p 0).1 (nmM tx (L - p) p 0).2 = 4 from by unfold bdM; first | rw [if_pos zc140] | rw [if_neg zc140, if_pos zc146, if_neg zc159]] <;> rfl)
            | (rw [show bdM tx p (nmM tx (L - p) p 0).1 (nmM tx (L - p) p 0).2 = 2 from by unfold bdM; first | rw [if_neg zc140, if_neg zc146] | rw [if_neg zc140, if_pos zc146, if_pos zc159]] <;> rfl)
        · refine j_aload_n (pc := 149) dX7_next_149 rfl ?_
          refine j_getf (pc := 150) dX7_next_150 fl_X7_82 (by apply lkE; (with_reducible first | exact lkM_129 hp | exact lkM_133 hp | exact lkM_144 hp | exact lkM_134 hp | exact lkM_130 hp | exact lkM_131 hp | exact lkM_132 hp | exact lkM_135 hp | exact lkM_136 hp | exact lkM_137 hp | exact lkM_138 hp | exact lkM_145 hp | exact lkM_146 hp | exact lkM_139 hp | exact lkM_140 hp | exact lkM_141 hp | exact lkM_142 hp | exact lkM_143 hp); rfl) rfl ?_
          refine j_aload_n (pc := 153) dX7_next_153 rfl ?_
          refine j_getf (pc := 154) dX7_next_154 fl_X7_89 (by apply lkE; (with_reducible first | exact lkM_129 hp | exact lkM_133 hp | exact lkM_144 hp | exact lkM_134 hp | exact lkM_130 hp | exact lkM_131 hp | exact lkM_132 hp | exact lkM_135 hp | exact lkM_136 hp | exact lkM_137 hp | exact lkM_138 hp | exact lkM_145 hp | exact lkM_146 hp | exact lkM_139 hp | exact lkM_140 hp | exact lkM_141 hp | exact lkM_142 hp | exact lkM_143 hp); rfl) rfl ?_
          refine j_isub (pc := 157) dX7_next_157 ?_
          refine j_iconst (pc := 158) dX7_next_158 kc_1 ?_
          refine j_icmp_le (pc := 159) (tgt := 166) dX7_next_159 rfl (fun zc159 => ?_) (fun zc159 => ?_)
          · refine j_iconst (pc := 166) dX7_next_166 kc_2 ?_
            refine j_putf (pc := 167) dX7_next_167 fl_X7_95 (jfit_i _) (by apply lkE; (with_reducible first | exact lkM_129 hp | exact lkM_133 hp | exact lkM_144 hp | exact lkM_134 hp | exact lkM_130 hp | exact lkM_131 hp | exact lkM_132 hp | exact lkM_135 hp | exact lkM_136 hp | exact lkM_137 hp | exact lkM_138 hp | exact lkM_145 hp | exact lkM_146 hp | exact lkM_139 hp | exact lkM_140 hp | exact lkM_141 hp | exact lkM_142 hp | exact lkM_143 hp); rfl) (upM_129 hp) ?_
            refine j_goto (pc := 170) (tgt := 237) dX7_next_170 rfl ?_
            refine j_return (pc := 237) dX7_next_237 rfl ?_
            refine ⟨rfl, ?_⟩
            rw [nxM, if_neg hpl, if_pos zc64]
            first
              | (rw [show bdM tx p (nmM tx (L - p) p 0).1 (nmM tx (L - p) p 0).2 = 4 from by unfold bdM; first | rw [if_pos zc140] | rw [if_neg zc140, if_pos zc146, if_neg zc159]] <;> rfl)
              | (rw [show bdM tx p (nmM tx (L - p) p 0).1 (nmM tx (L - p) p 0).2 = 2 from by unfold bdM; first | rw [if_neg zc140, if_neg zc146] | rw [if_neg zc140, if_pos zc146, if_pos zc159]] <;> rfl)
          · refine j_iconst (pc := 162) dX7_next_162 kc_4 ?_
            refine j_goto (pc := 163) (tgt := 167) dX7_next_163 rfl ?_
            refine j_putf (pc := 167) dX7_next_167 fl_X7_95 (jfit_i _) (by apply lkE; (with_reducible first | exact lkM_129 hp | exact lkM_133 hp | exact lkM_144 hp | exact lkM_134 hp | exact lkM_130 hp | exact lkM_131 hp | exact lkM_132 hp | exact lkM_135 hp | exact lkM_136 hp | exact lkM_137 hp | exact lkM_138 hp | exact lkM_145 hp | exact lkM_146 hp | exact lkM_139 hp | exact lkM_140 hp | exact lkM_141 hp | exact lkM_142 hp | exact lkM_143 hp); rfl) (upM_129 hp) ?_
            refine j_goto (pc := 170) (tgt := 237) dX7_next_170 rfl ?_
            refine j_return (pc := 237) dX7_next_237 rfl ?_
            refine ⟨rfl, ?_⟩
            rw [nxM, if_neg hpl, if_pos zc64]
            first
              | (rw [show bdM tx p (nmM tx (L - p) p 0).1 (nmM tx (L - p) p 0).2 = 4 from by unfold bdM; first | rw [if_pos zc140] | rw [if_neg zc140, if_pos zc146, if_neg zc159]] <;> rfl)
              | (rw [show bdM tx p (nmM tx (L - p) p 0).1 (nmM tx (L - p) p 0).2 = 2 from by unfold bdM; first | rw [if_neg zc140, if_neg zc146] | rw [if_neg zc140, if_pos zc146, if_pos zc159]] <;> rfl)

theorem m_next0 (hp : pre.length = 129) {L : Nat} (htn : tn = nI L) (hL : L ≤ 150) (hx : ∀ k, k < L → 0 ≤ tx k) {c a : Nat} {tk nu : Int32} {w : Bool} (hc : c ≤ L) : CD g 2 mX7_next [.ref 129] (W2 pre de we da bo be sg pi ru st wa kn im ik tm to tr tx tn (nI c) (nI a) (tk) (nu) (w) it sd swt sdd sbx sfl sdi sb sst sp sr nw od bs) none (W2 pre de we da bo be sg pi ru st wa kn im ik tm to tr tx tn (nI (nextM tx L (c, a, tk, nu, w)).1) (nI (nextM tx L (c, a, tk, nu, w)).2.1) ((nextM tx L (c, a, tk, nu, w)).2.2.1) ((nextM tx L (c, a, tk, nu, w)).2.2.2.1) ((nextM tx L (c, a, tk, nu, w)).2.2.2.2) it sd swt sdd sbx sfl sdi sb sst sp sr nw od bs) := m_nextG hp htn hL hx hc
theorem m_next (hp : pre.length = 129) {L : Nat} (htn : tn = nI L) (hL : L ≤ 150) (hx : ∀ k, k < L → 0 ≤ tx k) {s : MSt} (hc : s.1 ≤ L) : CD g 2 mX7_next [.ref 129] (W2 pre de we da bo be sg pi ru st wa kn im ik tm to tr tx tn (nI (s).1) (nI (s).2.1) ((s).2.2.1) ((s).2.2.2.1) ((s).2.2.2.2) it sd swt sdd sbx sfl sdi sb sst sp sr nw od bs) none (W2 pre de we da bo be sg pi ru st wa kn im ik tm to tr tx tn (nI (nextM tx L s).1) (nI (nextM tx L s).2.1) ((nextM tx L s).2.2.1) ((nextM tx L s).2.2.2.1) ((nextM tx L s).2.2.2.2) it sd swt sdd sbx sfl sdi sb sst sp sr nw od bs) := m_next0 hp htn hL hx hc
end

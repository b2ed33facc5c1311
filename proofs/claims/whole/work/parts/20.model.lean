/-! the reference: small functions -/
section
variable {g : GG} {h : List AC} {Q : Option Value → List AC → Prop} {pre : List AC} {de : Int32} {we : Fn} {da : Int32} {bo : Fn} {be : Int32} {sg : Fn} {pi : Int32} {ru : Int32} {st : Fn} {wa : Fn} {kn : Int32} {im : Fn} {ik : Nat → Bool} {tm : Int32} {to : Fn} {tr : Int64} {tx : Fn} {tn : Int32} {cu : Int32} {sa : Int32} {tk : Int32} {nu : Int32} {wr : Bool} {it : Int32} {sd : Int32} {swt : Fn} {sdd : Int32} {sbx : Fn} {sfl : Fn} {sdi : Fn} {sb : Int32} {sst : Fn} {sp : Int32} {sr : Int32} {nw : Fn} {od : Fn} {bs : Fn}
theorem nIa (a : Nat) : ∀ b : Nat, nI a + nI b = nI (a + b)
  | 0 => by rw [show nI 0 = 0 from rfl, Int32.add_zero, Nat.add_zero]
  | b + 1 => by rw [nI_succ b, ← Int32.add_assoc, nIa a b, ← nI_succ, Nat.add_assoc]
def mhas (s k : Int32) : Bool := decide ((s >>> (k &&& 31)) &&& 1 = 1)
def mbStep (s : Int32) (k : Nat) (a : Int32) : Int32 := a + ((s >>> (nI k &&& 31)) &&& 1)
def mbits (s : Int32) : Int32 := iter (mbStep s) 6 0 0
def msz (v : Int32) : Int32 := if v < 0 then -v else v
def cpyF (f f2 : Fn) (p q m : Nat) : Fn := fun j => if p ≤ j ∧ j < p + m then f2 (q + (j - p)) else f j
theorem jin_jlt {l : Int32} {n : Nat} (hn : n ≤ 6) : jin l 0 (nI n - 1) = jlt l (nI n) := by
  have h1 : (nI n - 1).toInt = (n : Int) - 1 := by
    have : n = 0 ∨ n = 1 ∨ n = 2 ∨ n = 3 ∨ n = 4 ∨ n = 5 ∨ n = 6 := by omega
    rcases this with rfl | rfl | rfl | rfl | rfl | rfl | rfl <;> decide
  have h2 : (nI n).toInt = n := nI_toInt (by omega)
  have h0 : (0 : Int32).toInt = 0 := rfl
  unfold jin jlt
  by_cases e : l < 0
  · simp only [e, not_true_eq_false, decide_false, Bool.false_and]
  · simp only [e, not_false_eq_true, decide_true, Bool.true_and]
    rw [decide_eq_decide, Int32.lt_iff_toInt_lt, Int32.le_iff_toInt_le, h1, h2]
    omega
set_option maxRecDepth 20000 in
set_option maxHeartbeats 200000 in
theorem m_has {s k : Int32} : CD g 0 mX7_has [.int s, .int k] h (some (.int (b2i (mhas s k)))) h := by
  refine C.of (by decide +kernel) (by simp [Value.category]) (Nat.le_of_ble_eq_true rfl) ?_
  change J g mX7_has 0 0 0 _ h 0 [some (.int s), some (.int k)] []
  refine j_iload_n (pc := 0) dX7_has_0 rfl ?_
  refine j_iload_n (pc := 1) dX7_has_1 rfl ?_
  refine j_ishr (pc := 2) dX7_has_2 ?_
  refine j_iconst (pc := 3) dX7_has_3 kc_1 ?_
  refine j_iand (pc := 4) dX7_has_4 ?_
  refine j_iconst (pc := 5) dX7_has_5 kc_1 ?_
  refine j_icmp_ne (pc := 6) (tgt := 13) dX7_has_6 rfl (fun zc6 => ?_) (fun zc6 => ?_)
  · refine j_iconst (pc := 13) dX7_has_13 kc_0 ?_
    refine j_zret (pc := 14) (b := mhas s k) dX7_has_14 rfl (by simp [mhas, b2i, *]) ?_
    exact ⟨rfl, rfl⟩
  · refine j_iconst (pc := 9) dX7_has_9 kc_1 ?_
    refine j_goto (pc := 10) (tgt := 14) dX7_has_10 rfl ?_
    refine j_zret (pc := 14) (b := mhas s k) dX7_has_14 rfl (by simp [mhas, b2i, *]) ?_
    exact ⟨rfl, rfl⟩

set_option maxRecDepth 20000 in
set_option maxHeartbeats 200000 in
theorem ml_bits {s : Int32} : ∀ (m k : Nat) (a : Int32), k + m = 6 → J g mX7_bits 0 0 0 (fun r h' => r = some (.int (iter (mbStep s) m k a)) ∧ h' = h) h 4 [some (.int s), some (.int a), some (.int (nI k))] [] := by
  intro m
  induction m with
  | zero =>
    intro k a hk
    refine j_iload_n (pc := 4) dX7_bits_4 rfl ?_
    refine j_bipush (pc := 5) dX7_bits_5 kb_6 ?_
    refine j_icmp_ge (pc := 7) (tgt := 24) dX7_bits_7 rfl (fun _ => ?_) (fun zc7 => absurd (nI_le (a := 6) (b := k) (by omega) (by omega)) zc7)
    refine j_iload_n (pc := 24) dX7_bits_24 rfl ?_
    refine j_ireturn (pc := 25) dX7_bits_25 rfl ?_
    exact ⟨rfl, rfl⟩
  | succ m ih =>
    intro k a hk
    refine j_iload_n (pc := 4) dX7_bits_4 rfl ?_
    refine j_bipush (pc := 5) dX7_bits_5 kb_6 ?_
    refine j_icmp_ge (pc := 7) (tgt := 24) dX7_bits_7 rfl (fun zc7 => absurd zc7 (nI_ge (a := k) (b := 6) (by omega) (by omega))) (fun _ => ?_)
    refine j_iload_n (pc := 10) dX7_bits_10 rfl ?_
    refine j_iload_n (pc := 11) dX7_bits_11 rfl ?_
    refine j_iload_n (pc := 12) dX7_bits_12 rfl ?_
    refine j_ishr (pc := 13) dX7_bits_13 ?_
    refine j_iconst (pc := 14) dX7_bits_14 kc_1 ?_
    refine j_iand (pc := 15) dX7_bits_15 ?_
    refine j_iadd (pc := 16) dX7_bits_16 ?_
    refine j_istore_n (pc := 17) dX7_bits_17 rfl (Nat.le_of_ble_eq_true rfl) rfl ?_
    refine j_iinc (pc := 18) dX7_bits_18 rfl rfl (Nat.le_of_ble_eq_true rfl) rfl ?_
    refine j_goto (pc := 21) (tgt := 4) dX7_bits_21 rfl ?_
    rw [nI_s]
    exact ih (k + 1) _ (by omega)

set_option maxRecDepth 20000 in
set_option maxHeartbeats 200000 in
theorem m_bits {s : Int32} : CD g 0 mX7_bits [.int s] h (some (.int (mbits s))) h := by
  refine C.of (by decide +kernel) (by simp [Value.category]) (Nat.le_of_ble_eq_true rfl) ?_
  change J g mX7_bits 0 0 0 _ h 0 [some (.int s), none, none] []
  refine j_iconst (pc := 0) dX7_bits_0 kc_0 ?_
  refine j_istore_n (pc := 1) dX7_bits_1 rfl (Nat.le_of_ble_eq_true rfl) rfl ?_
  refine j_iconst (pc := 2) dX7_bits_2 kc_0 ?_
  refine j_istore_n (pc := 3) dX7_bits_3 rfl (Nat.le_of_ble_eq_true rfl) rfl ?_
  exact ml_bits 6 0 0 rfl

set_option maxRecDepth 20000 in
set_option maxHeartbeats 200000 in
theorem m_size {s : Int32} : CD g 0 mX7_size [.int s] h (some (.int (msz s))) h := by
  refine C.of (by decide +kernel) (by simp [Value.category]) (Nat.le_of_ble_eq_true rfl) ?_
  change J g mX7_size 0 0 0 _ h 0 [some (.int s)] []
  refine j_iload_n (pc := 0) dX7_size_0 rfl ?_
  refine j_if_ge (pc := 1) (tgt := 9) dX7_size_1 rfl (fun zc1 => ?_) (fun zc1 => ?_)
  · refine j_iload_n (pc := 9) dX7_size_9 rfl ?_
    refine j_ireturn (pc := 10) dX7_size_10 rfl ?_
    exact ⟨by simp [msz, ← Int32.not_le, *], rfl⟩
  · refine j_iload_n (pc := 4) dX7_size_4 rfl ?_
    refine j_ineg (pc := 5) dX7_size_5 ?_
    refine j_goto (pc := 6) (tgt := 10) dX7_size_6 rfl ?_
    refine j_ireturn (pc := 10) dX7_size_10 rfl ?_
    exact ⟨by simp [msz, ← Int32.not_le, *], rfl⟩

set_option maxRecDepth 20000 in
set_option maxHeartbeats 200000 in
theorem ml_copy {a b n n2 p q : Nat} {f2 : Fn} (hab : ¬ a = b) (hn : p + 21 ≤ n) (hn2 : q + 21 ≤ n2) (h1 : n < 1000) (h2 : n2 < 1000) : ∀ (m k : Nat) (f : Fn) (h : List AC), k + m = 21 → h[a]? = some (8, iv n (cpyF f f2 p q k)) → h[b]? = some (8, iv n2 f2) → J g mX7_copy 0 0 0 (fun r h' => r = none ∧ h' = h.set a (8, iv n (cpyF f f2 p q 21))) h 3 [some (.ref a), some (.int (nI p)), some (.ref b), some (.int (nI q)), some (.int (nI k))] [] := by
  intro m
  induction m with
  | zero =>
    intro k f h hk ha hb
    refine j_iload (pc := 3) dX7_copy_3 rfl ?_
    refine j_bipush (pc := 5) dX7_copy_5 kb_21 ?_
    refine j_icmp_ge (pc := 7) (tgt := 28) dX7_copy_7 rfl (fun _ => ?_) (fun zc7 => absurd (nI_le (a := 21) (b := k) (by omega) (by omega)) zc7)
    refine j_return (pc := 28) dX7_copy_28 rfl ?_
    refine ⟨rfl, ?_⟩
    rw [show 21 = k by omega, set_same ha]
  | succ m ih =>
    intro k f h hk ha hb
    refine j_iload (pc := 3) dX7_copy_3 rfl ?_
    refine j_bipush (pc := 5) dX7_copy_5 kb_21 ?_
    refine j_icmp_ge (pc := 7) (tgt := 28) dX7_copy_7 rfl (fun zc7 => absurd zc7 (nI_ge (a := k) (b := 21) (by omega) (by omega))) (fun _ => ?_)
    refine j_aload_n (pc := 10) dX7_copy_10 rfl ?_
    refine j_iload_n (pc := 11) dX7_copy_11 rfl ?_
    refine j_iload (pc := 12) dX7_copy_12 rfl ?_
    refine j_iadd (pc := 14) dX7_copy_14 ?_
    refine j_aload_n (pc := 15) dX7_copy_15 rfl ?_
    refine j_iload_n (pc := 16) dX7_copy_16 rfl ?_
    refine j_iload (pc := 17) dX7_copy_17 rfl ?_
    refine j_iadd (pc := 19) dX7_copy_19 ?_
    refine j_ialdE (pc := 20) dX7_copy_20 (by assumption) rfl (nIa q k) (by omega) (by omega) ?_
    refine j_iastE (pc := 21) dX7_copy_21 (by assumption) (nIa p k) (by omega) (by omega) rfl ?_
    refine j_iinc (pc := 22) dX7_copy_22 rfl rfl (Nat.le_of_ble_eq_true rfl) rfl ?_
    refine j_goto (pc := 25) (tgt := 3) dX7_copy_25 rfl ?_
    rw [nI_s]
    have e : upd (cpyF f f2 p q k) (p + k) (f2 (q + k)) = cpyF f f2 p q (k + 1) := by
      funext j
      unfold upd cpyF
      by_cases e1 : j = p + k
      · rw [if_pos e1, if_pos (by omega), e1, show p + k - p = k by omega]
      · rw [if_neg e1]
        by_cases e2 : p ≤ j ∧ j < p + k
        · rw [if_pos e2, if_pos (by omega)]
        · rw [if_neg e2, if_neg (by omega)]
    rw [e]
    have z := ih (k + 1) f (h.set a (8, iv n (cpyF f f2 p q (k + 1)))) (by omega) (get_eq ha) (get_ne2 hb hab)
    rw [List.set_set] at z
    exact z

set_option maxRecDepth 20000 in
set_option maxHeartbeats 200000 in
theorem m_copy {a b n n2 p q : Nat} {f f2 : Fn} (hab : ¬ a = b) (hn : p + 21 ≤ n) (hn2 : q + 21 ≤ n2) (h1 : n < 1000) (h2 : n2 < 1000) (ha : h[a]? = some (8, iv n f)) (hb : h[b]? = some (8, iv n2 f2)) : CD g 0 mX7_copy [.ref a, .int (nI p), .ref b, .int (nI q)] h none (h.set a (8, iv n (cpyF f f2 p q 21))) := by
  refine C.of (by decide +kernel) (by simp [Value.category]) (Nat.le_of_ble_eq_true rfl) ?_
  change J g mX7_copy 0 0 0 _ h 0 [some (.ref a), some (.int (nI p)), some (.ref b), some (.int (nI q)), none] []
  refine j_iconst (pc := 0) dX7_copy_0 kc_0 ?_
  refine j_istore (pc := 1) dX7_copy_1 (Nat.le_of_ble_eq_true rfl) rfl ?_
  exact ml_copy hab hn hn2 h1 h2 21 0 f h rfl (by rw [ha, show cpyF f f2 p q 0 = f from by funext j; unfold cpyF; rw [if_neg (by omega)]]) hb

set_option maxRecDepth 20000 in
set_option maxHeartbeats 200000 in
theorem m_isDead (hp : pre.length = 129) {l : Int32} {n : Nat} (hdd : da = nI n) (hn : n ≤ 6) : CD g 1 mX7_isDead [.ref 129, .int l] (W2 pre de we da bo be sg pi ru st wa kn im ik tm to tr tx tn cu sa tk nu wr it sd swt sdd sbx sfl sdi sb sst sp sr nw od bs) (some (.int (b2i (jlt l da)))) (W2 pre de we da bo be sg pi ru st wa kn im ik tm to tr tx tn cu sa tk nu wr it sd swt sdd sbx sfl sdi sb sst sp sr nw od bs) := by
  refine C.of (by decide +kernel) (by simp [Value.category]) (Nat.le_of_ble_eq_true rfl) ?_
  change J g mX7_isDead 1 0 0 _ (W2 pre de we da bo be sg pi ru st wa kn im ik tm to tr tx tn cu sa tk nu wr it sd swt sdd sbx sfl sdi sb sst sp sr nw od bs) 0 [some (.ref 129), some (.int l)] []
  refine j_iload_n (pc := 0) dX7_isDead_0 rfl ?_
  refine j_iconst (pc := 1) dX7_isDead_1 kc_0 ?_
  refine j_aload_n (pc := 2) dX7_isDead_2 rfl ?_
  refine j_getf (pc := 3) dX7_isDead_3 fl_X7_76 (by apply lkE; (with_reducible first | exact lkM_129 hp | exact lkM_133 hp | exact lkM_144 hp | exact lkM_134 hp | exact lkM_130 hp | exact lkM_131 hp | exact lkM_132 hp | exact lkM_135 hp | exact lkM_136 hp | exact lkM_137 hp | exact lkM_138 hp | exact lkM_145 hp | exact lkM_146 hp | exact lkM_139 hp | exact lkM_140 hp | exact lkM_141 hp | exact lkM_142 hp | exact lkM_143 hp); rfl) rfl ?_
  refine j_iconst (pc := 6) dX7_isDead_6 kc_1 ?_
  refine j_isub (pc := 7) dX7_isDead_7 ?_
  refine j_s3 (pc := 8) dX7_isDead_8 mc_X7_in ml_X7_72 sm_X7_in (by omega) (c_in) (Nat.le_of_ble_eq_true rfl) ?_
  refine j_zret (pc := 11) (b := jlt l da) dX7_isDead_11 rfl (by rw [hdd, jin_jlt hn]) ?_
  exact ⟨rfl, rfl⟩

set_option maxRecDepth 20000 in
set_option maxHeartbeats 200000 in
theorem m_isDeed (hp : pre.length = 129) {l : Int32} {ne : Nat} (hde : de = nI ne) (hne : ne ≤ 6) : CD g 1 mX7_isDeed [.ref 129, .int l] (W2 pre de we da bo be sg pi ru st wa kn im ik tm to tr tx tn cu sa tk nu wr it sd swt sdd sbx sfl sdi sb sst sp sr nw od bs) (some (.int (b2i (jlt l de)))) (W2 pre de we da bo be sg pi ru st wa kn im ik tm to tr tx tn cu sa tk nu wr it sd swt sdd sbx sfl sdi sb sst sp sr nw od bs) := by
  refine C.of (by decide +kernel) (by simp [Value.category]) (Nat.le_of_ble_eq_true rfl) ?_
  change J g mX7_isDeed 1 0 0 _ (W2 pre de we da bo be sg pi ru st wa kn im ik tm to tr tx tn cu sa tk nu wr it sd swt sdd sbx sfl sdi sb sst sp sr nw od bs) 0 [some (.ref 129), some (.int l)] []
  refine j_iload_n (pc := 0) dX7_isDeed_0 rfl ?_
  refine j_iconst (pc := 1) dX7_isDeed_1 kc_0 ?_
  refine j_aload_n (pc := 2) dX7_isDeed_2 rfl ?_
  refine j_getf (pc := 3) dX7_isDeed_3 fl_X7_69 (by apply lkE; (with_reducible first | exact lkM_129 hp | exact lkM_133 hp | exact lkM_144 hp | exact lkM_134 hp | exact lkM_130 hp | exact lkM_131 hp | exact lkM_132 hp | exact lkM_135 hp | exact lkM_136 hp | exact lkM_137 hp | exact lkM_138 hp | exact lkM_145 hp | exact lkM_146 hp | exact lkM_139 hp | exact lkM_140 hp | exact lkM_141 hp | exact lkM_142 hp | exact lkM_143 hp); rfl) rfl ?_
  refine j_iconst (pc := 6) dX7_isDeed_6 kc_1 ?_
  refine j_isub (pc := 7) dX7_isDeed_7 ?_
  refine j_s3 (pc := 8) dX7_isDeed_8 mc_X7_in ml_X7_72 sm_X7_in (by omega) (c_in) (Nat.le_of_ble_eq_true rfl) ?_
  refine j_zret (pc := 11) (b := jlt l de) dX7_isDeed_11 rfl (by rw [hde, jin_jlt hne]) ?_
  exact ⟨rfl, rfl⟩

theorem cpy0 {f f2 : Fn} : iv 21 (cpyF f f2 0 0 21) = iv 21 f2 := iv_congr (fun i hi => by unfold cpyF; rw [if_pos (by omega), Nat.zero_add, Nat.sub_zero])
theorem up_asIt (hp : pre.length = 129) : (W2 pre de we da bo be sg pi ru st wa kn im ik tm to tr tx tn cu sa tk nu wr it sd swt sdd sbx sfl sdi sb sst sp sr nw od bs).set 144 (8, iv 21 (cpyF nw st 0 0 21)) = (W2 pre de we da bo be sg pi ru st wa kn im ik tm to tr tx tn cu sa tk nu wr it sd swt sdd sbx sfl sdi sb sst sp sr (st) od bs) := by
  rw [cpy0]
  exact upM_144 hp
theorem up_lays (hp : pre.length = 129) {f : Fn} : (W2 pre de we da bo be sg pi ru st wa kn im ik tm to tr tx tn cu sa tk nu wr it sd swt sdd sbx sfl sdi sb sst sp sr nw od bs).set 133 (8, iv 21 (cpyF f nw 0 0 21)) = (W2 pre de we da bo be sg pi ru (nw) wa kn im ik tm to tr tx tn cu sa tk nu wr it sd swt sdd sbx sfl sdi sb sst sp sr nw od bs) := by
  rw [cpy0]
  exact upM_133 hp
set_option maxRecDepth 20000 in
set_option maxHeartbeats 200000 in
theorem m_asItIs (hp : pre.length = 129)  : CD g 1 mX7_asItIs [.ref 129] (W2 pre de we da bo be sg pi ru st wa kn im ik tm to tr tx tn cu sa tk nu wr it sd swt sdd sbx sfl sdi sb sst sp sr nw od bs) none (W2 pre de we da bo be sg pi ru st wa kn im ik tm to tr tx tn cu sa tk nu wr it sd swt sdd sbx sfl sdi sb sst sp sr (st) od bs) := by
  refine C.of (by decide +kernel) (by simp [Value.category]) (Nat.le_of_ble_eq_true rfl) ?_
  change J g mX7_asItIs 1 0 0 _ (W2 pre de we da bo be sg pi ru st wa kn im ik tm to tr tx tn cu sa tk nu wr it sd swt sdd sbx sfl sdi sb sst sp sr nw od bs) 0 [some (.ref 129)] []
  refine j_aload_n (pc := 0) dX7_asItIs_0 rfl ?_
  refine j_getf (pc := 1) dX7_asItIs_1 fl_X7_60 (by apply lkE; (with_reducible first | exact lkM_129 hp | exact lkM_133 hp | exact lkM_144 hp | exact lkM_134 hp | exact lkM_130 hp | exact lkM_131 hp | exact lkM_132 hp | exact lkM_135 hp | exact lkM_136 hp | exact lkM_137 hp | exact lkM_138 hp | exact lkM_145 hp | exact lkM_146 hp | exact lkM_139 hp | exact lkM_140 hp | exact lkM_141 hp | exact lkM_142 hp | exact lkM_143 hp); rfl) rfl ?_
  refine j_iconst (pc := 4) dX7_asItIs_4 kc_0 ?_
  refine j_aload_n (pc := 5) dX7_asItIs_5 rfl ?_
  refine j_getf (pc := 6) dX7_asItIs_6 fl_X7_26 (by apply lkE; (with_reducible first | exact lkM_129 hp | exact lkM_133 hp | exact lkM_144 hp | exact lkM_134 hp | exact lkM_130 hp | exact lkM_131 hp | exact lkM_132 hp | exact lkM_135 hp | exact lkM_136 hp | exact lkM_137 hp | exact lkM_138 hp | exact lkM_145 hp | exact lkM_146 hp | exact lkM_139 hp | exact lkM_140 hp | exact lkM_141 hp | exact lkM_142 hp | exact lkM_143 hp); rfl) rfl ?_
  refine j_iconst (pc := 9) dX7_asItIs_9 kc_0 ?_
  refine j_s4n (pc := 10) dX7_asItIs_10 mc_X7_copy ml_X7_160 sm_X7_copy (by omega) (CD.heap (up_asIt hp) (m_copy (p := 0) (q := 0) (by decide) (by decide) (by decide) (by decide) (by decide) (lkM_144 hp) (lkM_133 hp))) (Nat.le_of_ble_eq_true rfl) ?_
  refine j_return (pc := 13) dX7_asItIs_13 rfl ?_
  exact ⟨rfl, rfl⟩

def mwStep (we : Fn) (s : Int32) (k : Nat) (a : Int32) : Int32 := a + (if mhas s (nI k) then we k else 0)
def mwI (we : Fn) (ne : Nat) (s : Int32) : Int32 := iter (mwStep we s) ne 0 0
def trI (we bo nw : Fn) (ne j : Nat) : Int32 := bo j + nw (3 + j) + mwI we ne (nw (9 + j))
def mlI (we bo nw : Fn) (ne j : Nat) : Int32 := if trI we bo nw ne j + nw 1 < 0 then 0 else trI we bo nw ne j + nw 1
def mvN (pi : Int32) (nw : Fn) (ld : Int32) : Fn := upd nw 0 (nbI (nw 2) pi (nw 0) ld)
def laT (pi : Int32) (nw : Fn) (ld : Int32) : Int32 := nbI (nw 2) pi (nw 0) ld
def laN (pi : Int32) (nw : Fn) (ld : Int32) (j : Nat) : Fn := upd (mvN pi (upd (mvN pi nw ld) (15 + j) (laT pi nw ld)) 0) 1 0
def mcStep (st : Fn) (k : Nat) (a : Int32) : Int32 := a ||| (if st (15 + k) = -9 then 0 else bitI (nI k))
def mdStep (st : Fn) (d : Int32) (k : Nat) (a : Int32) : Int32 := a ||| (if mhas (st (9 + k)) d then bitI (nI k) else 0)
def shW (wa : Fn) (m : Nat) : Fn := fun k => if k < m then wa (k + 21) else wa k
def reW (wa st : Fn) (q : Nat) : Fn := if q = 10 then cpyF (shW wa 189) st 189 0 21 else cpyF wa st (21 * q) 0 21
set_option maxRecDepth 20000 in
set_option maxHeartbeats 200000 in
theorem ml_weight (hp : pre.length = 129) {s : Int32} {ne : Nat} (hde : de = nI ne) (hne : ne ≤ 6) : ∀ (m k : Nat) (a : Int32), k + m = ne → Q (some (.int (iter (mwStep we s) m k a))) (W2 pre de we da bo be sg pi ru st wa kn im ik tm to tr tx tn cu sa tk nu wr it sd swt sdd sbx sfl sdi sb sst sp sr nw od bs) → J g mX7_weightOf 1 0 0 Q (W2 pre de we da bo be sg pi ru st wa kn im ik tm to tr tx tn cu sa tk nu wr it sd swt sdd sbx sfl sdi sb sst sp sr nw od bs) 4 [some (.ref 129), some (.int s), some (.int a), some (.int (nI k))] [] := by
  intro m
  induction m with
  | zero =>
    intro k a hk hq
    refine j_iload_n (pc := 4) dX7_weightOf_4 rfl ?_
    refine j_aload_n (pc := 5) dX7_weightOf_5 rfl ?_
    refine j_getf (pc := 6) dX7_weightOf_6 fl_X7_69 (by apply lkE; (with_reducible first | exact lkM_129 hp | exact lkM_133 hp | exact lkM_144 hp | exact lkM_134 hp | exact lkM_130 hp | exact lkM_131 hp | exact lkM_132 hp | exact lkM_135 hp | exact lkM_136 hp | exact lkM_137 hp | exact lkM_138 hp | exact lkM_145 hp | exact lkM_146 hp | exact lkM_139 hp | exact lkM_140 hp | exact lkM_141 hp | exact lkM_142 hp | exact lkM_143 hp); rfl) rfl ?_
    refine j_icmp_ge (pc := 9) (tgt := 39) dX7_weightOf_9 rfl (fun _ => ?_) (fun zc9 => absurd (by rw [hde]; exact nI_le (by omega) (by omega)) zc9)
    refine j_iload_n (pc := 39) dX7_weightOf_39 rfl ?_
    refine j_ireturn (pc := 40) dX7_weightOf_40 rfl ?_
    exact hq
  | succ m ih =>
    intro k a hk hq
    refine j_iload_n (pc := 4) dX7_weightOf_4 rfl ?_
    refine j_aload_n (pc := 5) dX7_weightOf_5 rfl ?_
    refine j_getf (pc := 6) dX7_weightOf_6 fl_X7_69 (by apply lkE; (with_reducible first | exact lkM_129 hp | exact lkM_133 hp | exact lkM_144 hp | exact lkM_134 hp | exact lkM_130 hp | exact lkM_131 hp | exact lkM_132 hp | exact lkM_135 hp | exact lkM_136 hp | exact lkM_137 hp | exact lkM_138 hp | exact lkM_145 hp | exact lkM_146 hp | exact lkM_139 hp | exact lkM_140 hp | exact lkM_141 hp | exact lkM_142 hp | exact lkM_143 hp); rfl) rfl ?_
    refine j_icmp_ge (pc := 9) (tgt := 39) dX7_weightOf_9 rfl (fun zc9 => absurd zc9 (by rw [hde]; exact nI_ge (by omega) (by omega))) (fun _ => ?_)
    refine j_iload_n (pc := 12) dX7_weightOf_12 rfl ?_
    refine j_iload_n (pc := 13) dX7_weightOf_13 rfl ?_
    refine j_iload_n (pc := 14) dX7_weightOf_14 rfl ?_
    refine j_s2 (pc := 15) dX7_weightOf_15 mc_X7_has ml_X7_119 sm_X7_has (by omega) (m_has) (Nat.le_of_ble_eq_true rfl) ?_
    refine j_beq (pc := 18) (tgt := 30) dX7_weightOf_18 rfl (fun zc18 => ?_) (fun zc18 => ?_)
    · refine j_iconst (pc := 30) dX7_weightOf_30 kc_0 ?_
      refine j_iadd (pc := 31) dX7_weightOf_31 ?_
      refine j_istore_n (pc := 32) dX7_weightOf_32 rfl (Nat.le_of_ble_eq_true rfl) rfl ?_
      refine j_iinc (pc := 33) dX7_weightOf_33 rfl rfl (Nat.le_of_ble_eq_true rfl) rfl ?_
      refine j_goto (pc := 36) (tgt := 4) dX7_weightOf_36 rfl ?_
      rw [nI_s]
      refine ih (k + 1) _ (by omega) ?_
      first
        | simpa [iter, mwStep, *] using hq
        | (simp only [iter, mwStep, *, ↓reduceIte, not_false_eq_true, Bool.false_eq_true] at hq; exact hq)
    · refine j_aload_n (pc := 21) dX7_weightOf_21 rfl ?_
      refine j_getf (pc := 22) dX7_weightOf_22 fl_X7_7 (by apply lkE; (with_reducible first | exact lkM_129 hp | exact lkM_133 hp | exact lkM_144 hp | exact lkM_134 hp | exact lkM_130 hp | exact lkM_131 hp | exact lkM_132 hp | exact lkM_135 hp | exact lkM_136 hp | exact lkM_137 hp | exact lkM_138 hp | exact lkM_145 hp | exact lkM_146 hp | exact lkM_139 hp | exact lkM_140 hp | exact lkM_141 hp | exact lkM_142 hp | exact lkM_143 hp); rfl) rfl ?_
      refine j_iload_n (pc := 25) dX7_weightOf_25 rfl ?_
      refine j_ialdE (pc := 26) dX7_weightOf_26 (by apply lkE; (with_reducible first | exact lkM_129 hp | exact lkM_133 hp | exact lkM_144 hp | exact lkM_134 hp | exact lkM_130 hp | exact lkM_131 hp | exact lkM_132 hp | exact lkM_135 hp | exact lkM_136 hp | exact lkM_137 hp | exact lkM_138 hp | exact lkM_145 hp | exact lkM_146 hp | exact lkM_139 hp | exact lkM_140 hp | exact lkM_141 hp | exact lkM_142 hp | exact lkM_143 hp); rfl) rfl rfl (by omega) (by decide) ?_
      refine j_goto (pc := 27) (tgt := 31) dX7_weightOf_27 rfl ?_
      refine j_iadd (pc := 31) dX7_weightOf_31 ?_
      refine j_istore_n (pc := 32) dX7_weightOf_32 rfl (Nat.le_of_ble_eq_true rfl) rfl ?_
      refine j_iinc (pc := 33) dX7_weightOf_33 rfl rfl (Nat.le_of_ble_eq_true rfl) rfl ?_
      refine j_goto (pc := 36) (tgt := 4) dX7_weightOf_36 rfl ?_
      rw [nI_s]
      refine ih (k + 1) _ (by omega) ?_
      first
        | simpa [iter, mwStep, *] using hq
        | (simp only [iter, mwStep, *, ↓reduceIte, not_false_eq_true, Bool.false_eq_true] at hq; exact hq)

set_option maxRecDepth 20000 in
set_option maxHeartbeats 200000 in
theorem m_weightOf (hp : pre.length = 129) {s : Int32} {ne : Nat} (hde : de = nI ne) (hne : ne ≤ 6) : CD g 1 mX7_weightOf [.ref 129, .int s] (W2 pre de we da bo be sg pi ru st wa kn im ik tm to tr tx tn cu sa tk nu wr it sd swt sdd sbx sfl sdi sb sst sp sr nw od bs) (some (.int (mwI we ne s))) (W2 pre de we da bo be sg pi ru st wa kn im ik tm to tr tx tn cu sa tk nu wr it sd swt sdd sbx sfl sdi sb sst sp sr nw od bs) := by
  refine C.of (by decide +kernel) (by simp [Value.category]) (Nat.le_of_ble_eq_true rfl) ?_
  change J g mX7_weightOf 1 0 0 _ (W2 pre de we da bo be sg pi ru st wa kn im ik tm to tr tx tn cu sa tk nu wr it sd swt sdd sbx sfl sdi sb sst sp sr nw od bs) 0 [some (.ref 129), some (.int s), none, none] []
  refine j_iconst (pc := 0) dX7_weightOf_0 kc_0 ?_
  refine j_istore_n (pc := 1) dX7_weightOf_1 rfl (Nat.le_of_ble_eq_true rfl) rfl ?_
  refine j_iconst (pc := 2) dX7_weightOf_2 kc_0 ?_
  refine j_istore_n (pc := 3) dX7_weightOf_3 rfl (Nat.le_of_ble_eq_true rfl) rfl ?_
  exact ml_weight hp hde hne ne 0 0 (by omega) ⟨rfl, rfl⟩

set_option maxRecDepth 20000 in
set_option maxHeartbeats 200000 in
theorem m_truly (hp : pre.length = 129) {j : Nat} (hj : j < 6) {ne : Nat} (hde : de = nI ne) (hne : ne ≤ 6) : CD g 2 mX7_truly [.ref 129, .int (nI j)] (W2 pre de we da bo be sg pi ru st wa kn im ik tm to tr tx tn cu sa tk nu wr it sd swt sdd sbx sfl sdi sb sst sp sr nw od bs) (some (.int (trI we bo nw ne j))) (W2 pre de we da bo be sg pi ru st wa kn im ik tm to tr tx tn cu sa tk nu wr it sd swt sdd sbx sfl sdi sb sst sp sr nw od bs) := by
  refine C.of (by decide +kernel) (by simp [Value.category]) (Nat.le_of_ble_eq_true rfl) ?_
  change J g mX7_truly 2 0 0 _ (W2 pre de we da bo be sg pi ru st wa kn im ik tm to tr tx tn cu sa tk nu wr it sd swt sdd sbx sfl sdi sb sst sp sr nw od bs) 0 [some (.ref 129), some (.int (nI j))] []
  refine j_aload_n (pc := 0) dX7_truly_0 rfl ?_
  refine j_getf (pc := 1) dX7_truly_1 fl_X7_13 (by apply lkE; (with_reducible first | exact lkM_129 hp | exact lkM_133 hp | exact lkM_144 hp | exact lkM_134 hp | exact lkM_130 hp | exact lkM_131 hp | exact lkM_132 hp | exact lkM_135 hp | exact lkM_136 hp | exact lkM_137 hp | exact lkM_138 hp | exact lkM_145 hp | exact lkM_146 hp | exact lkM_139 hp | exact lkM_140 hp | exact lkM_141 hp | exact lkM_142 hp | exact lkM_143 hp); rfl) rfl ?_
  refine j_iload_n (pc := 4) dX7_truly_4 rfl ?_
  refine j_ialdE (pc := 5) dX7_truly_5 (by apply lkE; (with_reducible first | exact lkM_129 hp | exact lkM_133 hp | exact lkM_144 hp | exact lkM_134 hp | exact lkM_130 hp | exact lkM_131 hp | exact lkM_132 hp | exact lkM_135 hp | exact lkM_136 hp | exact lkM_137 hp | exact lkM_138 hp | exact lkM_145 hp | exact lkM_146 hp | exact lkM_139 hp | exact lkM_140 hp | exact lkM_141 hp | exact lkM_142 hp | exact lkM_143 hp); rfl) rfl rfl (by omega) (by decide) ?_
  refine j_aload_n (pc := 6) dX7_truly_6 rfl ?_
  refine j_getf (pc := 7) dX7_truly_7 fl_X7_60 (by apply lkE; (with_reducible first | exact lkM_129 hp | exact lkM_133 hp | exact lkM_144 hp | exact lkM_134 hp | exact lkM_130 hp | exact lkM_131 hp | exact lkM_132 hp | exact lkM_135 hp | exact lkM_136 hp | exact lkM_137 hp | exact lkM_138 hp | exact lkM_145 hp | exact lkM_146 hp | exact lkM_139 hp | exact lkM_140 hp | exact lkM_141 hp | exact lkM_142 hp | exact lkM_143 hp); rfl) rfl ?_
  refine j_iconst (pc := 10) dX7_truly_10 kc_3 ?_
  refine j_iload_n (pc := 11) dX7_truly_11 rfl ?_
  refine j_iadd (pc := 12) dX7_truly_12 ?_
  refine j_ialdE (pc := 13) dX7_truly_13 (by apply lkE; (with_reducible first | exact lkM_129 hp | exact lkM_133 hp | exact lkM_144 hp | exact lkM_134 hp | exact lkM_130 hp | exact lkM_131 hp | exact lkM_132 hp | exact lkM_135 hp | exact lkM_136 hp | exact lkM_137 hp | exact lkM_138 hp | exact lkM_145 hp | exact lkM_146 hp | exact lkM_139 hp | exact lkM_140 hp | exact lkM_141 hp | exact lkM_142 hp | exact lkM_143 hp); rfl) rfl (nIa 3 j) (by omega) (by decide) ?_
  refine j_iadd (pc := 14) dX7_truly_14 ?_
  refine j_aload_n (pc := 15) dX7_truly_15 rfl ?_
  refine j_aload_n (pc := 16) dX7_truly_16 rfl ?_
  refine j_getf (pc := 17) dX7_truly_17 fl_X7_60 (by apply lkE; (with_reducible first | exact lkM_129 hp | exact lkM_133 hp | exact lkM_144 hp | exact lkM_134 hp | exact lkM_130 hp | exact lkM_131 hp | exact lkM_132 hp | exact lkM_135 hp | exact lkM_136 hp | exact lkM_137 hp | exact lkM_138 hp | exact lkM_145 hp | exact lkM_146 hp | exact lkM_139 hp | exact lkM_140 hp | exact lkM_141 hp | exact lkM_142 hp | exact lkM_143 hp); rfl) rfl ?_
  refine j_bipush (pc := 20) dX7_truly_20 kb_9 ?_
  refine j_iload_n (pc := 22) dX7_truly_22 rfl ?_
  refine j_iadd (pc := 23) dX7_truly_23 ?_
  refine j_ialdE (pc := 24) dX7_truly_24 (by apply lkE; (with_reducible first | exact lkM_129 hp | exact lkM_133 hp | exact lkM_144 hp | exact lkM_134 hp | exact lkM_130 hp | exact lkM_131 hp | exact lkM_132 hp | exact lkM_135 hp | exact lkM_136 hp | exact lkM_137 hp | exact lkM_138 hp | exact lkM_145 hp | exact lkM_146 hp | exact lkM_139 hp | exact lkM_140 hp | exact lkM_141 hp | exact lkM_142 hp | exact lkM_143 hp); rfl) rfl (nIa 9 j) (by omega) (by decide) ?_
  refine j_v1 (pc := 25) (ci := 7) dX7_truly_25 mc_X7_weightOf ml_X7_164 im_X7_weightOf se_X7_weightOf rfl rfl (by apply lkE; (with_reducible first | exact lkM_129 hp | exact lkM_133 hp | exact lkM_144 hp | exact lkM_134 hp | exact lkM_130 hp | exact lkM_131 hp | exact lkM_132 hp | exact lkM_135 hp | exact lkM_136 hp | exact lkM_137 hp | exact lkM_138 hp | exact lkM_145 hp | exact lkM_146 hp | exact lkM_139 hp | exact lkM_140 hp | exact lkM_141 hp | exact lkM_142 hp | exact lkM_143 hp); rfl) (by omega) (m_weightOf hp hde hne) (Nat.le_of_ble_eq_true rfl) ?_
  refine j_iadd (pc := 28) dX7_truly_28 ?_
  refine j_ireturn (pc := 29) dX7_truly_29 rfl ?_
  exact ⟨rfl, rfl⟩

set_option maxRecDepth 20000 in
set_option maxHeartbeats 200000 in
theorem m_loadOf (hp : pre.length = 129) {j : Nat} (hj : j < 6) {ne : Nat} (hde : de = nI ne) (hne : ne ≤ 6) : CD g 3 mX7_loadOf [.ref 129, .int (nI j)] (W2 pre de we da bo be sg pi ru st wa kn im ik tm to tr tx tn cu sa tk nu wr it sd swt sdd sbx sfl sdi sb sst sp sr nw od bs) (some (.int (mlI we bo nw ne j))) (W2 pre de we da bo be sg pi ru st wa kn im ik tm to tr tx tn cu sa tk nu wr it sd swt sdd sbx sfl sdi sb sst sp sr nw od bs) := by
  refine C.of (by decide +kernel) (by simp [Value.category]) (Nat.le_of_ble_eq_true rfl) ?_
  change J g mX7_loadOf 3 0 0 _ (W2 pre de we da bo be sg pi ru st wa kn im ik tm to tr tx tn cu sa tk nu wr it sd swt sdd sbx sfl sdi sb sst sp sr nw od bs) 0 [some (.ref 129), some (.int (nI j)), none] []
  refine j_aload_n (pc := 0) dX7_loadOf_0 rfl ?_
  refine j_iload_n (pc := 1) dX7_loadOf_1 rfl ?_
  refine j_v1 (pc := 2) (ci := 7) dX7_loadOf_2 mc_X7_truly ml_X7_167 im_X7_truly se_X7_truly rfl rfl (by apply lkE; (with_reducible first | exact lkM_129 hp | exact lkM_133 hp | exact lkM_144 hp | exact lkM_134 hp | exact lkM_130 hp | exact lkM_131 hp | exact lkM_132 hp | exact lkM_135 hp | exact lkM_136 hp | exact lkM_137 hp | exact lkM_138 hp | exact lkM_145 hp | exact lkM_146 hp | exact lkM_139 hp | exact lkM_140 hp | exact lkM_141 hp | exact lkM_142 hp | exact lkM_143 hp); rfl) (by omega) (m_truly hp hj hde hne) (Nat.le_of_ble_eq_true rfl) ?_
  refine j_aload_n (pc := 5) dX7_loadOf_5 rfl ?_
  refine j_getf (pc := 6) dX7_loadOf_6 fl_X7_60 (by apply lkE; (with_reducible first | exact lkM_129 hp | exact lkM_133 hp | exact lkM_144 hp | exact lkM_134 hp | exact lkM_130 hp | exact lkM_131 hp | exact lkM_132 hp | exact lkM_135 hp | exact lkM_136 hp | exact lkM_137 hp | exact lkM_138 hp | exact lkM_145 hp | exact lkM_146 hp | exact lkM_139 hp | exact lkM_140 hp | exact lkM_141 hp | exact lkM_142 hp | exact lkM_143 hp); rfl) rfl ?_
  refine j_iconst (pc := 9) dX7_loadOf_9 kc_1 ?_
  refine j_ialdE (pc := 10) dX7_loadOf_10 (by apply lkE; (with_reducible first | exact lkM_129 hp | exact lkM_133 hp | exact lkM_144 hp | exact lkM_134 hp | exact lkM_130 hp | exact lkM_131 hp | exact lkM_132 hp | exact lkM_135 hp | exact lkM_136 hp | exact lkM_137 hp | exact lkM_138 hp | exact lkM_145 hp | exact lkM_146 hp | exact lkM_139 hp | exact lkM_140 hp | exact lkM_141 hp | exact lkM_142 hp | exact lkM_143 hp); rfl) rfl (rfl : (1 : Int32) = nI 1) (by decide) (by decide) ?_
  refine j_iadd (pc := 11) dX7_loadOf_11 ?_
  refine j_istore_n (pc := 12) dX7_loadOf_12 rfl (Nat.le_of_ble_eq_true rfl) rfl ?_
  refine j_iload_n (pc := 13) dX7_loadOf_13 rfl ?_
  refine j_if_ge (pc := 14) (tgt := 21) dX7_loadOf_14 rfl (fun zc14 => ?_) (fun zc14 => ?_)
  · refine j_iload_n (pc := 21) dX7_loadOf_21 rfl ?_
    refine j_ireturn (pc := 22) dX7_loadOf_22 rfl ?_
    exact ⟨by simp [mlI, ← Int32.not_le, *], rfl⟩
  · refine j_iconst (pc := 17) dX7_loadOf_17 kc_0 ?_
    refine j_goto (pc := 18) (tgt := 22) dX7_loadOf_18 rfl ?_
    refine j_ireturn (pc := 22) dX7_loadOf_22 rfl ?_
    exact ⟨by simp [mlI, ← Int32.not_le, *], rfl⟩

set_option maxRecDepth 20000 in
set_option maxHeartbeats 200000 in
theorem m_moves (hp : pre.length = 129) {ld : Int32} : CD g 0 mX7_moves [.ref 129, .int ld] (W2 pre de we da bo be sg pi ru st wa kn im ik tm to tr tx tn cu sa tk nu wr it sd swt sdd sbx sfl sdi sb sst sp sr nw od bs) none (W2 pre de we da bo be sg pi ru st wa kn im ik tm to tr tx tn cu sa tk nu wr it sd swt sdd sbx sfl sdi sb sst sp sr (mvN pi nw ld) od bs) := by
  refine C.of (by decide +kernel) (by simp [Value.category]) (Nat.le_of_ble_eq_true rfl) ?_
  change J g mX7_moves 0 0 0 _ (W2 pre de we da bo be sg pi ru st wa kn im ik tm to tr tx tn cu sa tk nu wr it sd swt sdd sbx sfl sdi sb sst sp sr nw od bs) 0 [some (.ref 129), some (.int ld), none, none, none] []
  refine j_iload_n (pc := 0) dX7_moves_0 rfl ?_
  refine j_aload_n (pc := 1) dX7_moves_1 rfl ?_
  refine j_getf (pc := 2) dX7_moves_2 fl_X7_60 (by apply lkE; (with_reducible first | exact lkM_129 hp | exact lkM_133 hp | exact lkM_144 hp | exact lkM_134 hp | exact lkM_130 hp | exact lkM_131 hp | exact lkM_132 hp | exact lkM_135 hp | exact lkM_136 hp | exact lkM_137 hp | exact lkM_138 hp | exact lkM_145 hp | exact lkM_146 hp | exact lkM_139 hp | exact lkM_140 hp | exact lkM_141 hp | exact lkM_142 hp | exact lkM_143 hp); rfl) rfl ?_
  refine j_iconst (pc := 5) dX7_moves_5 kc_2 ?_
  refine j_ialdE (pc := 6) dX7_moves_6 (by apply lkE; (with_reducible first | exact lkM_129 hp | exact lkM_133 hp | exact lkM_144 hp | exact lkM_134 hp | exact lkM_130 hp | exact lkM_131 hp | exact lkM_132 hp | exact lkM_135 hp | exact lkM_136 hp | exact lkM_137 hp | exact lkM_138 hp | exact lkM_145 hp | exact lkM_146 hp | exact lkM_139 hp | exact lkM_140 hp | exact lkM_141 hp | exact lkM_142 hp | exact lkM_143 hp); rfl) rfl (rfl : (2 : Int32) = nI 2) (by decide) (by decide) ?_
  refine j_isub (pc := 7) dX7_moves_7 ?_
  refine j_istore_n (pc := 8) dX7_moves_8 rfl (Nat.le_of_ble_eq_true rfl) rfl ?_
  refine j_iload_n (pc := 9) dX7_moves_9 rfl ?_
  refine j_aload_n (pc := 10) dX7_moves_10 rfl ?_
  refine j_getf (pc := 11) dX7_moves_11 fl_X7_60 (by apply lkE; (with_reducible first | exact lkM_129 hp | exact lkM_133 hp | exact lkM_144 hp | exact lkM_134 hp | exact lkM_130 hp | exact lkM_131 hp | exact lkM_132 hp | exact lkM_135 hp | exact lkM_136 hp | exact lkM_137 hp | exact lkM_138 hp | exact lkM_145 hp | exact lkM_146 hp | exact lkM_139 hp | exact lkM_140 hp | exact lkM_141 hp | exact lkM_142 hp | exact lkM_143 hp); rfl) rfl ?_
  refine j_iconst (pc := 14) dX7_moves_14 kc_2 ?_
  refine j_ialdE (pc := 15) dX7_moves_15 (by apply lkE; (with_reducible first | exact lkM_129 hp | exact lkM_133 hp | exact lkM_144 hp | exact lkM_134 hp | exact lkM_130 hp | exact lkM_131 hp | exact lkM_132 hp | exact lkM_135 hp | exact lkM_136 hp | exact lkM_137 hp | exact lkM_138 hp | exact lkM_145 hp | exact lkM_146 hp | exact lkM_139 hp | exact lkM_140 hp | exact lkM_141 hp | exact lkM_142 hp | exact lkM_143 hp); rfl) rfl (rfl : (2 : Int32) = nI 2) (by decide) (by decide) ?_
  refine j_iadd (pc := 16) dX7_moves_16 ?_
  refine j_istore_n (pc := 17) dX7_moves_17 rfl (Nat.le_of_ble_eq_true rfl) rfl ?_
  refine j_aload_n (pc := 18) dX7_moves_18 rfl ?_
  refine j_getf (pc := 19) dX7_moves_19 fl_X7_60 (by apply lkE; (with_reducible first | exact lkM_129 hp | exact lkM_133 hp | exact lkM_144 hp | exact lkM_134 hp | exact lkM_130 hp | exact lkM_131 hp | exact lkM_132 hp | exact lkM_135 hp | exact lkM_136 hp | exact lkM_137 hp | exact lkM_138 hp | exact lkM_145 hp | exact lkM_146 hp | exact lkM_139 hp | exact lkM_140 hp | exact lkM_141 hp | exact lkM_142 hp | exact lkM_143 hp); rfl) rfl ?_
  refine j_iconst (pc := 22) dX7_moves_22 kc_0 ?_
  refine j_ialdE (pc := 23) dX7_moves_23 (by apply lkE; (with_reducible first | exact lkM_129 hp | exact lkM_133 hp | exact lkM_144 hp | exact lkM_134 hp | exact lkM_130 hp | exact lkM_131 hp | exact lkM_132 hp | exact lkM_135 hp | exact lkM_136 hp | exact lkM_137 hp | exact lkM_138 hp | exact lkM_145 hp | exact lkM_146 hp | exact lkM_139 hp | exact lkM_140 hp | exact lkM_141 hp | exact lkM_142 hp | exact lkM_143 hp); rfl) rfl (rfl : (0 : Int32) = nI 0) (by decide) (by decide) ?_
  refine j_iload_n (pc := 24) dX7_moves_24 rfl ?_
  refine j_icmp_ge (pc := 25) (tgt := 32) dX7_moves_25 rfl (fun zc25 => ?_) (fun zc25 => ?_)
  · refine j_aload_n (pc := 32) dX7_moves_32 rfl ?_
    refine j_getf (pc := 33) dX7_moves_33 fl_X7_60 (by apply lkE; (with_reducible first | exact lkM_129 hp | exact lkM_133 hp | exact lkM_144 hp | exact lkM_134 hp | exact lkM_130 hp | exact lkM_131 hp | exact lkM_132 hp | exact lkM_135 hp | exact lkM_136 hp | exact lkM_137 hp | exact lkM_138 hp | exact lkM_145 hp | exact lkM_146 hp | exact lkM_139 hp | exact lkM_140 hp | exact lkM_141 hp | exact lkM_142 hp | exact lkM_143 hp); rfl) rfl ?_
    refine j_iconst (pc := 36) dX7_moves_36 kc_0 ?_
    refine j_ialdE (pc := 37) dX7_moves_37 (by apply lkE; (with_reducible first | exact lkM_129 hp | exact lkM_133 hp | exact lkM_144 hp | exact lkM_134 hp | exact lkM_130 hp | exact lkM_131 hp | exact lkM_132 hp | exact lkM_135 hp | exact lkM_136 hp | exact lkM_137 hp | exact lkM_138 hp | exact lkM_145 hp | exact lkM_146 hp | exact lkM_139 hp | exact lkM_140 hp | exact lkM_141 hp | exact lkM_142 hp | exact lkM_143 hp); rfl) rfl (rfl : (0 : Int32) = nI 0) (by decide) (by decide) ?_
    refine j_iload_n (pc := 38) dX7_moves_38 rfl ?_
    refine j_icmp_le (pc := 39) (tgt := 46) dX7_moves_39 rfl (fun zc39 => ?_) (fun zc39 => ?_)
    · refine j_aload_n (pc := 46) dX7_moves_46 rfl ?_
      refine j_getf (pc := 47) dX7_moves_47 fl_X7_60 (by apply lkE; (with_reducible first | exact lkM_129 hp | exact lkM_133 hp | exact lkM_144 hp | exact lkM_134 hp | exact lkM_130 hp | exact lkM_131 hp | exact lkM_132 hp | exact lkM_135 hp | exact lkM_136 hp | exact lkM_137 hp | exact lkM_138 hp | exact lkM_145 hp | exact lkM_146 hp | exact lkM_139 hp | exact lkM_140 hp | exact lkM_141 hp | exact lkM_142 hp | exact lkM_143 hp); rfl) rfl ?_
      refine j_iconst (pc := 50) dX7_moves_50 kc_0 ?_
      refine j_ialdE (pc := 51) dX7_moves_51 (by apply lkE; (with_reducible first | exact lkM_129 hp | exact lkM_133 hp | exact lkM_144 hp | exact lkM_134 hp | exact lkM_130 hp | exact lkM_131 hp | exact lkM_132 hp | exact lkM_135 hp | exact lkM_136 hp | exact lkM_137 hp | exact lkM_138 hp | exact lkM_145 hp | exact lkM_146 hp | exact lkM_139 hp | exact lkM_140 hp | exact lkM_141 hp | exact lkM_142 hp | exact lkM_143 hp); rfl) rfl (rfl : (0 : Int32) = nI 0) (by decide) (by decide) ?_
      refine j_istore (pc := 52) dX7_moves_52 (Nat.le_of_ble_eq_true rfl) rfl ?_
      refine j_aload_n (pc := 54) dX7_moves_54 rfl ?_
      refine j_getf (pc := 55) dX7_moves_55 fl_X7_60 (by apply lkE; (with_reducible first | exact lkM_129 hp | exact lkM_133 hp | exact lkM_144 hp | exact lkM_134 hp | exact lkM_130 hp | exact lkM_131 hp | exact lkM_132 hp | exact lkM_135 hp | exact lkM_136 hp | exact lkM_137 hp | exact lkM_138 hp | exact lkM_145 hp | exact lkM_146 hp | exact lkM_139 hp | exact lkM_140 hp | exact lkM_141 hp | exact lkM_142 hp | exact lkM_143 hp); rfl) rfl ?_
      refine j_iconst (pc := 58) dX7_moves_58 kc_0 ?_
      refine j_iload (pc := 59) dX7_moves_59 rfl ?_
      refine j_aload_n (pc := 61) dX7_moves_61 rfl ?_
      refine j_getf (pc := 62) dX7_moves_62 fl_X7_19 (by apply lkE; (with_reducible first | exact lkM_129 hp | exact lkM_133 hp | exact lkM_144 hp | exact lkM_134 hp | exact lkM_130 hp | exact lkM_131 hp | exact lkM_132 hp | exact lkM_135 hp | exact lkM_136 hp | exact lkM_137 hp | exact lkM_138 hp | exact lkM_145 hp | exact lkM_146 hp | exact lkM_139 hp | exact lkM_140 hp | exact lkM_141 hp | exact lkM_142 hp | exact lkM_143 hp); rfl) rfl ?_
      refine j_icmp_le (pc := 65) (tgt := 75) dX7_moves_65 rfl (fun zc65 => ?_) (fun zc65 => ?_)
      · refine j_iload (pc := 75) dX7_moves_75 rfl ?_
        refine j_iastE (pc := 77) dX7_moves_77 (by apply lkE; (with_reducible first | exact lkM_129 hp | exact lkM_133 hp | exact lkM_144 hp | exact lkM_134 hp | exact lkM_130 hp | exact lkM_131 hp | exact lkM_132 hp | exact lkM_135 hp | exact lkM_136 hp | exact lkM_137 hp | exact lkM_138 hp | exact lkM_145 hp | exact lkM_146 hp | exact lkM_139 hp | exact lkM_140 hp | exact lkM_141 hp | exact lkM_142 hp | exact lkM_143 hp); rfl) (rfl : (0 : Int32) = nI 0) (by decide) (by decide) (upM_144 hp) ?_
        refine j_return (pc := 78) dX7_moves_78 rfl ?_
        exact ⟨rfl, by simp only [mvN, nbI, imin, ← Int32.not_le, not_true_eq_false, not_false_eq_true, if_true, if_false, *]⟩
      · refine j_aload_n (pc := 68) dX7_moves_68 rfl ?_
        refine j_getf (pc := 69) dX7_moves_69 fl_X7_19 (by apply lkE; (with_reducible first | exact lkM_129 hp | exact lkM_133 hp | exact lkM_144 hp | exact lkM_134 hp | exact lkM_130 hp | exact lkM_131 hp | exact lkM_132 hp | exact lkM_135 hp | exact lkM_136 hp | exact lkM_137 hp | exact lkM_138 hp | exact lkM_145 hp | exact lkM_146 hp | exact lkM_139 hp | exact lkM_140 hp | exact lkM_141 hp | exact lkM_142 hp | exact lkM_143 hp); rfl) rfl ?_
        refine j_goto (pc := 72) (tgt := 77) dX7_moves_72 rfl ?_
        refine j_iastE (pc := 77) dX7_moves_77 (by apply lkE; (with_reducible first | exact lkM_129 hp | exact lkM_133 hp | exact lkM_144 hp | exact lkM_134 hp | exact lkM_130 hp | exact lkM_131 hp | exact lkM_132 hp | exact lkM_135 hp | exact lkM_136 hp | exact lkM_137 hp | exact lkM_138 hp | exact lkM_145 hp | exact lkM_146 hp | exact lkM_139 hp | exact lkM_140 hp | exact lkM_141 hp | exact lkM_142 hp | exact lkM_143 hp); rfl) (rfl : (0 : Int32) = nI 0) (by decide) (by decide) (upM_144 hp) ?_
        refine j_return (pc := 78) dX7_moves_78 rfl ?_
        exact ⟨rfl, by simp only [mvN, nbI, imin, ← Int32.not_le, not_true_eq_false, not_false_eq_true, if_true, if_false, *]⟩
    · refine j_iload_n (pc := 42) dX7_moves_42 rfl ?_
      refine j_goto (pc := 43) (tgt := 52) dX7_moves_43 rfl ?_
      refine j_istore (pc := 52) dX7_moves_52 (Nat.le_of_ble_eq_true rfl) rfl ?_
      refine j_aload_n (pc := 54) dX7_moves_54 rfl ?_
      refine j_getf (pc := 55) dX7_moves_55 fl_X7_60 (by apply lkE; (with_reducible first | exact lkM_129 hp | exact lkM_133 hp | exact lkM_144 hp | exact lkM_134 hp | exact lkM_130 hp | exact lkM_131 hp | exact lkM_132 hp | exact lkM_135 hp | exact lkM_136 hp | exact lkM_137 hp | exact lkM_138 hp | exact lkM_145 hp | exact lkM_146 hp | exact lkM_139 hp | exact lkM_140 hp | exact lkM_141 hp | exact lkM_142 hp | exact lkM_143 hp); rfl) rfl ?_
      refine j_iconst (pc := 58) dX7_moves_58 kc_0 ?_
      refine j_iload (pc := 59) dX7_moves_59 rfl ?_
      refine j_aload_n (pc := 61) dX7_moves_61 rfl ?_
      refine j_getf (pc := 62) dX7_moves_62 fl_X7_19 (by apply lkE; (with_reducible first | exact lkM_129 hp | exact lkM_133 hp | exact lkM_144 hp | exact lkM_134 hp | exact lkM_130 hp | exact lkM_131 hp | exact lkM_132 hp | exact lkM_135 hp | exact lkM_136 hp | exact lkM_137 hp | exact lkM_138 hp | exact lkM_145 hp | exact lkM_146 hp | exact lkM_139 hp | exact lkM_140 hp | exact lkM_141 hp | exact lkM_142 hp | exact lkM_143 hp); rfl) rfl ?_
      refine j_icmp_le (pc := 65) (tgt := 75) dX7_moves_65 rfl (fun zc65 => ?_) (fun zc65 => ?_)
      · refine j_iload (pc := 75) dX7_moves_75 rfl ?_
        refine j_iastE (pc := 77) dX7_moves_77 (by apply lkE; (with_reducible first | exact lkM_129 hp | exact lkM_133 hp | exact lkM_144 hp | exact lkM_134 hp | exact lkM_130 hp | exact lkM_131 hp | exact lkM_132 hp | exact lkM_135 hp | exact lkM_136 hp | exact lkM_137 hp | exact lkM_138 hp | exact lkM_145 hp | exact lkM_146 hp | exact lkM_139 hp | exact lkM_140 hp | exact lkM_141 hp | exact lkM_142 hp | exact lkM_143 hp); rfl) (rfl : (0 : Int32) = nI 0) (by decide) (by decide) (upM_144 hp) ?_
        refine j_return (pc := 78) dX7_moves_78 rfl ?_
        exact ⟨rfl, by simp only [mvN, nbI, imin, ← Int32.not_le, not_true_eq_false, not_false_eq_true, if_true, if_false, *]⟩
      · refine j_aload_n (pc := 68) dX7_moves_68 rfl ?_
        refine j_getf (pc := 69) dX7_moves_69 fl_X7_19 (by apply lkE; (with_reducible first | exact lkM_129 hp | exact lkM_133 hp | exact lkM_144 hp | exact lkM_134 hp | exact lkM_130 hp | exact lkM_131 hp | exact lkM_132 hp | exact lkM_135 hp | exact lkM_136 hp | exact lkM_137 hp | exact lkM_138 hp | exact lkM_145 hp | exact lkM_146 hp | exact lkM_139 hp | exact lkM_140 hp | exact lkM_141 hp | exact lkM_142 hp | exact lkM_143 hp); rfl) rfl ?_
        refine j_goto (pc := 72) (tgt := 77) dX7_moves_72 rfl ?_
        refine j_iastE (pc := 77) dX7_moves_77 (by apply lkE; (with_reducible first | exact lkM_129 hp | exact lkM_133 hp | exact lkM_144 hp | exact lkM_134 hp | exact lkM_130 hp | exact lkM_131 hp | exact lkM_132 hp | exact lkM_135 hp | exact lkM_136 hp | exact lkM_137 hp | exact lkM_138 hp | exact lkM_145 hp | exact lkM_146 hp | exact lkM_139 hp | exact lkM_140 hp | exact lkM_141 hp | exact lkM_142 hp | exact lkM_143 hp); rfl) (rfl : (0 : Int32) = nI 0) (by decide) (by decide) (upM_144 hp) ?_
        refine j_return (pc := 78) dX7_moves_78 rfl ?_
        exact ⟨rfl, by simp only [mvN, nbI, imin, ← Int32.not_le, not_true_eq_false, not_false_eq_true, if_true, if_false, *]⟩
  · refine j_iload_n (pc := 28) dX7_moves_28 rfl ?_
    refine j_goto (pc := 29) (tgt := 52) dX7_moves_29 rfl ?_
    refine j_istore (pc := 52) dX7_moves_52 (Nat.le_of_ble_eq_true rfl) rfl ?_
    refine j_aload_n (pc := 54) dX7_moves_54 rfl ?_
    refine j_getf (pc := 55) dX7_moves_55 fl_X7_60 (by apply lkE; (with_reducible first | exact lkM_129 hp | exact lkM_133 hp | exact lkM_144 hp | exact lkM_134 hp | exact lkM_130 hp | exact lkM_131 hp | exact lkM_132 hp | exact lkM_135 hp | exact lkM_136 hp | exact lkM_137 hp | exact lkM_138 hp | exact lkM_145 hp | exact lkM_146 hp | exact lkM_139 hp | exact lkM_140 hp | exact lkM_141 hp | exact lkM_142 hp | exact lkM_143 hp); rfl) rfl ?_
    refine j_iconst (pc := 58) dX7_moves_58 kc_0 ?_
    refine j_iload (pc := 59) dX7_moves_59 rfl ?_
    refine j_aload_n (pc := 61) dX7_moves_61 rfl ?_
    refine j_getf (pc := 62) dX7_moves_62 fl_X7_19 (by apply lkE; (with_reducible first | exact lkM_129 hp | exact lkM_133 hp | exact lkM_144 hp | exact lkM_134 hp | exact lkM_130 hp | exact lkM_131 hp | exact lkM_132 hp | exact lkM_135 hp | exact lkM_136 hp | exact lkM_137 hp | exact lkM_138 hp | exact lkM_145 hp | exact lkM_146 hp | exact lkM_139 hp | exact lkM_140 hp | exact lkM_141 hp | exact lkM_142 hp | exact lkM_143 hp); rfl) rfl ?_
    refine j_icmp_le (pc := 65) (tgt := 75) dX7_moves_65 rfl (fun zc65 => ?_) (fun zc65 => ?_)
    · refine j_iload (pc := 75) dX7_moves_75 rfl ?_
      refine j_iastE (pc := 77) dX7_moves_77 (by apply lkE; (with_reducible first | exact lkM_129 hp | exact lkM_133 hp | exact lkM_144 hp | exact lkM_134 hp | exact lkM_130 hp | exact lkM_131 hp | exact lkM_132 hp | exact lkM_135 hp | exact lkM_136 hp | exact lkM_137 hp | exact lkM_138 hp | exact lkM_145 hp | exact lkM_146 hp | exact lkM_139 hp | exact lkM_140 hp | exact lkM_141 hp | exact lkM_142 hp | exact lkM_143 hp); rfl) (rfl : (0 : Int32) = nI 0) (by decide) (by decide) (upM_144 hp) ?_
      refine j_return (pc := 78) dX7_moves_78 rfl ?_
      exact ⟨rfl, by simp only [mvN, nbI, imin, ← Int32.not_le, not_true_eq_false, not_false_eq_true, if_true, if_false, *]⟩
    · refine j_aload_n (pc := 68) dX7_moves_68 rfl ?_
      refine j_getf (pc := 69) dX7_moves_69 fl_X7_19 (by apply lkE; (with_reducible first | exact lkM_129 hp | exact lkM_133 hp | exact lkM_144 hp | exact lkM_134 hp | exact lkM_130 hp | exact lkM_131 hp | exact lkM_132 hp | exact lkM_135 hp | exact lkM_136 hp | exact lkM_137 hp | exact lkM_138 hp | exact lkM_145 hp | exact lkM_146 hp | exact lkM_139 hp | exact lkM_140 hp | exact lkM_141 hp | exact lkM_142 hp | exact lkM_143 hp); rfl) rfl ?_
      refine j_goto (pc := 72) (tgt := 77) dX7_moves_72 rfl ?_
      refine j_iastE (pc := 77) dX7_moves_77 (by apply lkE; (with_reducible first | exact lkM_129 hp | exact lkM_133 hp | exact lkM_144 hp | exact lkM_134 hp | exact lkM_130 hp | exact lkM_131 hp | exact lkM_132 hp | exact lkM_135 hp | exact lkM_136 hp | exact lkM_137 hp | exact lkM_138 hp | exact lkM_145 hp | exact lkM_146 hp | exact lkM_139 hp | exact lkM_140 hp | exact lkM_141 hp | exact lkM_142 hp | exact lkM_143 hp); rfl) (rfl : (0 : Int32) = nI 0) (by decide) (by decide) (upM_144 hp) ?_
      refine j_return (pc := 78) dX7_moves_78 rfl ?_
      exact ⟨rfl, by simp only [mvN, nbI, imin, ← Int32.not_le, not_true_eq_false, not_false_eq_true, if_true, if_false, *]⟩

set_option maxRecDepth 20000 in
set_option maxHeartbeats 200000 in
theorem m_laid (hp : pre.length = 129) {j : Nat} (hj : j < 6) {ne : Nat} (hde : de = nI ne) (hne : ne ≤ 6) : CD g 4 mX7_laid [.ref 129, .int (nI j)] (W2 pre de we da bo be sg pi ru st wa kn im ik tm to tr tx tn cu sa tk nu wr it sd swt sdd sbx sfl sdi sb sst sp sr nw od bs) (some (.int (laT pi nw (mlI we bo nw ne j)))) (W2 pre de we da bo be sg pi ru st wa kn im ik tm to tr tx tn cu sa tk nu wr it sd swt sdd sbx sfl sdi sb sst sp sr (laN pi nw (mlI we bo nw ne j) j) od bs) := by
  refine C.of (by decide +kernel) (by simp [Value.category]) (Nat.le_of_ble_eq_true rfl) ?_
  change J g mX7_laid 4 0 0 _ (W2 pre de we da bo be sg pi ru st wa kn im ik tm to tr tx tn cu sa tk nu wr it sd swt sdd sbx sfl sdi sb sst sp sr nw od bs) 0 [some (.ref 129), some (.int (nI j)), none] []
  refine j_aload_n (pc := 0) dX7_laid_0 rfl ?_
  refine j_aload_n (pc := 1) dX7_laid_1 rfl ?_
  refine j_iload_n (pc := 2) dX7_laid_2 rfl ?_
  refine j_v1 (pc := 3) (ci := 7) dX7_laid_3 mc_X7_loadOf ml_X7_170 im_X7_loadOf se_X7_loadOf rfl rfl (by apply lkE; (with_reducible first | exact lkM_129 hp | exact lkM_133 hp | exact lkM_144 hp | exact lkM_134 hp | exact lkM_130 hp | exact lkM_131 hp | exact lkM_132 hp | exact lkM_135 hp | exact lkM_136 hp | exact lkM_137 hp | exact lkM_138 hp | exact lkM_145 hp | exact lkM_146 hp | exact lkM_139 hp | exact lkM_140 hp | exact lkM_141 hp | exact lkM_142 hp | exact lkM_143 hp); rfl) (by omega) (m_loadOf hp hj hde hne) (Nat.le_of_ble_eq_true rfl) ?_
  refine j_v1n (pc := 6) (ci := 7) dX7_laid_6 mc_X7_moves ml_X7_173 im_X7_moves se_X7_moves rfl rfl (by apply lkE; (with_reducible first | exact lkM_129 hp | exact lkM_133 hp | exact lkM_144 hp | exact lkM_134 hp | exact lkM_130 hp | exact lkM_131 hp | exact lkM_132 hp | exact lkM_135 hp | exact lkM_136 hp | exact lkM_137 hp | exact lkM_138 hp | exact lkM_145 hp | exact lkM_146 hp | exact lkM_139 hp | exact lkM_140 hp | exact lkM_141 hp | exact lkM_142 hp | exact lkM_143 hp); rfl) (by omega) (m_moves hp) (Nat.le_of_ble_eq_true rfl) ?_
  refine j_aload_n (pc := 9) dX7_laid_9 rfl ?_
  refine j_getf (pc := 10) dX7_laid_10 fl_X7_60 (by apply lkE; (with_reducible first | exact lkM_129 hp | exact lkM_133 hp | exact lkM_144 hp | exact lkM_134 hp | exact lkM_130 hp | exact lkM_131 hp | exact lkM_132 hp | exact lkM_135 hp | exact lkM_136 hp | exact lkM_137 hp | exact lkM_138 hp | exact lkM_145 hp | exact lkM_146 hp | exact lkM_139 hp | exact lkM_140 hp | exact lkM_141 hp | exact lkM_142 hp | exact lkM_143 hp); rfl) rfl ?_
  refine j_iconst (pc := 13) dX7_laid_13 kc_0 ?_
  refine j_ialdE (pc := 14) dX7_laid_14 (by apply lkE; (with_reducible first | exact lkM_129 hp | exact lkM_133 hp | exact lkM_144 hp | exact lkM_134 hp | exact lkM_130 hp | exact lkM_131 hp | exact lkM_132 hp | exact lkM_135 hp | exact lkM_136 hp | exact lkM_137 hp | exact lkM_138 hp | exact lkM_145 hp | exact lkM_146 hp | exact lkM_139 hp | exact lkM_140 hp | exact lkM_141 hp | exact lkM_142 hp | exact lkM_143 hp); rfl) rfl (rfl : (0 : Int32) = nI 0) (by decide) (by decide) ?_
  refine j_istore_n (pc := 15) dX7_laid_15 rfl (Nat.le_of_ble_eq_true rfl) rfl ?_
  refine j_aload_n (pc := 16) dX7_laid_16 rfl ?_
  refine j_getf (pc := 17) dX7_laid_17 fl_X7_60 (by apply lkE; (with_reducible first | exact lkM_129 hp | exact lkM_133 hp | exact lkM_144 hp | exact lkM_134 hp | exact lkM_130 hp | exact lkM_131 hp | exact lkM_132 hp | exact lkM_135 hp | exact lkM_136 hp | exact lkM_137 hp | exact lkM_138 hp | exact lkM_145 hp | exact lkM_146 hp | exact lkM_139 hp | exact lkM_140 hp | exact lkM_141 hp | exact lkM_142 hp | exact lkM_143 hp); rfl) rfl ?_
  refine j_bipush (pc := 20) dX7_laid_20 kb_15 ?_
  refine j_iload_n (pc := 22) dX7_laid_22 rfl ?_
  refine j_iadd (pc := 23) dX7_laid_23 ?_
  refine j_iload_n (pc := 24) dX7_laid_24 rfl ?_
  refine j_iastE (pc := 25) dX7_laid_25 (by apply lkE; (with_reducible first | exact lkM_129 hp | exact lkM_133 hp | exact lkM_144 hp | exact lkM_134 hp | exact lkM_130 hp | exact lkM_131 hp | exact lkM_132 hp | exact lkM_135 hp | exact lkM_136 hp | exact lkM_137 hp | exact lkM_138 hp | exact lkM_145 hp | exact lkM_146 hp | exact lkM_139 hp | exact lkM_140 hp | exact lkM_141 hp | exact lkM_142 hp | exact lkM_143 hp); rfl) (nIa 15 j) (by omega) (by decide) (upM_144 hp) ?_
  refine j_aload_n (pc := 26) dX7_laid_26 rfl ?_
  refine j_iconst (pc := 27) dX7_laid_27 kc_0 ?_
  refine j_v1n (pc := 28) (ci := 7) dX7_laid_28 mc_X7_moves ml_X7_173 im_X7_moves se_X7_moves rfl rfl (by apply lkE; (with_reducible first | exact lkM_129 hp | exact lkM_133 hp | exact lkM_144 hp | exact lkM_134 hp | exact lkM_130 hp | exact lkM_131 hp | exact lkM_132 hp | exact lkM_135 hp | exact lkM_136 hp | exact lkM_137 hp | exact lkM_138 hp | exact lkM_145 hp | exact lkM_146 hp | exact lkM_139 hp | exact lkM_140 hp | exact lkM_141 hp | exact lkM_142 hp | exact lkM_143 hp); rfl) (by omega) (m_moves hp) (Nat.le_of_ble_eq_true rfl) ?_
  refine j_aload_n (pc := 31) dX7_laid_31 rfl ?_
  refine j_getf (pc := 32) dX7_laid_32 fl_X7_60 (by apply lkE; (with_reducible first | exact lkM_129 hp | exact lkM_133 hp | exact lkM_144 hp | exact lkM_134 hp | exact lkM_130 hp | exact lkM_131 hp | exact lkM_132 hp | exact lkM_135 hp | exact lkM_136 hp | exact lkM_137 hp | exact lkM_138 hp | exact lkM_145 hp | exact lkM_146 hp | exact lkM_139 hp | exact lkM_140 hp | exact lkM_141 hp | exact lkM_142 hp | exact lkM_143 hp); rfl) rfl ?_
  refine j_iconst (pc := 35) dX7_laid_35 kc_1 ?_
  refine j_iconst (pc := 36) dX7_laid_36 kc_0 ?_
  refine j_iastE (pc := 37) dX7_laid_37 (by apply lkE; (with_reducible first | exact lkM_129 hp | exact lkM_133 hp | exact lkM_144 hp | exact lkM_134 hp | exact lkM_130 hp | exact lkM_131 hp | exact lkM_132 hp | exact lkM_135 hp | exact lkM_136 hp | exact lkM_137 hp | exact lkM_138 hp | exact lkM_145 hp | exact lkM_146 hp | exact lkM_139 hp | exact lkM_140 hp | exact lkM_141 hp | exact lkM_142 hp | exact lkM_143 hp); rfl) (rfl : (1 : Int32) = nI 1) (by decide) (by decide) (upM_144 hp) ?_
  refine j_iload_n (pc := 38) dX7_laid_38 rfl ?_
  refine j_ireturn (pc := 39) dX7_laid_39 rfl ?_
  exact ⟨rfl, rfl⟩

set_option maxRecDepth 20000 in
set_option maxHeartbeats 200000 in
theorem m_readsOf (hp : pre.length = 129) {j : Nat} (hj : j < 6) {ne : Nat} (hde : de = nI ne) (hne : ne ≤ 6) : CD g 5 mX7_readsOf [.ref 129, .int (nI j)] (W2 pre de we da bo be sg pi ru st wa kn im ik tm to tr tx tn cu sa tk nu wr it sd swt sdd sbx sfl sdi sb sst sp sr nw od bs) (some (.int (laT pi st (mlI we bo st ne j)))) (W2 pre de we da bo be sg pi ru st wa kn im ik tm to tr tx tn cu sa tk nu wr it sd swt sdd sbx sfl sdi sb sst sp sr (laN pi st (mlI we bo st ne j) j) od bs) := by
  refine C.of (by decide +kernel) (by simp [Value.category]) (Nat.le_of_ble_eq_true rfl) ?_
  change J g mX7_readsOf 5 0 0 _ (W2 pre de we da bo be sg pi ru st wa kn im ik tm to tr tx tn cu sa tk nu wr it sd swt sdd sbx sfl sdi sb sst sp sr nw od bs) 0 [some (.ref 129), some (.int (nI j))] []
  refine j_aload_n (pc := 0) dX7_readsOf_0 rfl ?_
  refine j_v0n (pc := 1) (ci := 7) dX7_readsOf_1 mc_X7_asItIs ml_X7_176 im_X7_asItIs se_X7_asItIs rfl rfl (by apply lkE; (with_reducible first | exact lkM_129 hp | exact lkM_133 hp | exact lkM_144 hp | exact lkM_134 hp | exact lkM_130 hp | exact lkM_131 hp | exact lkM_132 hp | exact lkM_135 hp | exact lkM_136 hp | exact lkM_137 hp | exact lkM_138 hp | exact lkM_145 hp | exact lkM_146 hp | exact lkM_139 hp | exact lkM_140 hp | exact lkM_141 hp | exact lkM_142 hp | exact lkM_143 hp); rfl) (by omega) (m_asItIs hp) (Nat.le_of_ble_eq_true rfl) ?_
  refine j_aload_n (pc := 4) dX7_readsOf_4 rfl ?_
  refine j_iload_n (pc := 5) dX7_readsOf_5 rfl ?_
  refine j_v1 (pc := 6) (ci := 7) dX7_readsOf_6 mc_X7_laid ml_X7_179 im_X7_laid se_X7_laid rfl rfl (by apply lkE; (with_reducible first | exact lkM_129 hp | exact lkM_133 hp | exact lkM_144 hp | exact lkM_134 hp | exact lkM_130 hp | exact lkM_131 hp | exact lkM_132 hp | exact lkM_135 hp | exact lkM_136 hp | exact lkM_137 hp | exact lkM_138 hp | exact lkM_145 hp | exact lkM_146 hp | exact lkM_139 hp | exact lkM_140 hp | exact lkM_141 hp | exact lkM_142 hp | exact lkM_143 hp); rfl) (by omega) (m_laid hp hj hde hne) (Nat.le_of_ble_eq_true rfl) ?_
  refine j_ireturn (pc := 9) dX7_readsOf_9 rfl ?_
  exact ⟨rfl, rfl⟩

set_option maxRecDepth 20000 in
set_option maxHeartbeats 200000 in
theorem ml_chalked (hp : pre.length = 129) {n : Nat} (hdd : da = nI n) (hn : n ≤ 6) : ∀ (m k : Nat) (a : Int32), k + m = n → Q (some (.int (iter (mcStep st) m k a))) (W2 pre de we da bo be sg pi ru st wa kn im ik tm to tr tx tn cu sa tk nu wr it sd swt sdd sbx sfl sdi sb sst sp sr nw od bs) → J g mX7_chalked 0 0 0 Q (W2 pre de we da bo be sg pi ru st wa kn im ik tm to tr tx tn cu sa tk nu wr it sd swt sdd sbx sfl sdi sb sst sp sr nw od bs) 4 [some (.ref 129), some (.int a), some (.int (nI k))] [] := by
  intro m
  induction m with
  | zero =>
    intro k a hk hq
    refine j_iload_n (pc := 4) dX7_chalked_4 rfl ?_
    refine j_aload_n (pc := 5) dX7_chalked_5 rfl ?_
    refine j_getf (pc := 6) dX7_chalked_6 fl_X7_76 (by apply lkE; (with_reducible first | exact lkM_129 hp | exact lkM_133 hp | exact lkM_144 hp | exact lkM_134 hp | exact lkM_130 hp | exact lkM_131 hp | exact lkM_132 hp | exact lkM_135 hp | exact lkM_136 hp | exact lkM_137 hp | exact lkM_138 hp | exact lkM_145 hp | exact lkM_146 hp | exact lkM_139 hp | exact lkM_140 hp | exact lkM_141 hp | exact lkM_142 hp | exact lkM_143 hp); rfl) rfl ?_
    refine j_icmp_ge (pc := 9) (tgt := 42) dX7_chalked_9 rfl (fun _ => ?_) (fun zc9 => absurd (by rw [hdd]; exact nI_le (by omega) (by omega)) zc9)
    refine j_iload_n (pc := 42) dX7_chalked_42 rfl ?_
    refine j_ireturn (pc := 43) dX7_chalked_43 rfl ?_
    exact hq
  | succ m ih =>
    intro k a hk hq
    refine j_iload_n (pc := 4) dX7_chalked_4 rfl ?_
    refine j_aload_n (pc := 5) dX7_chalked_5 rfl ?_
    refine j_getf (pc := 6) dX7_chalked_6 fl_X7_76 (by apply lkE; (with_reducible first | exact lkM_129 hp | exact lkM_133 hp | exact lkM_144 hp | exact lkM_134 hp | exact lkM_130 hp | exact lkM_131 hp | exact lkM_132 hp | exact lkM_135 hp | exact lkM_136 hp | exact lkM_137 hp | exact lkM_138 hp | exact lkM_145 hp | exact lkM_146 hp | exact lkM_139 hp | exact lkM_140 hp | exact lkM_141 hp | exact lkM_142 hp | exact lkM_143 hp); rfl) rfl ?_
    refine j_icmp_ge (pc := 9) (tgt := 42) dX7_chalked_9 rfl (fun zc9 => absurd zc9 (by rw [hdd]; exact nI_ge (by omega) (by omega))) (fun _ => ?_)
    refine j_iload_n (pc := 12) dX7_chalked_12 rfl ?_
    refine j_aload_n (pc := 13) dX7_chalked_13 rfl ?_
    refine j_getf (pc := 14) dX7_chalked_14 fl_X7_26 (by apply lkE; (with_reducible first | exact lkM_129 hp | exact lkM_133 hp | exact lkM_144 hp | exact lkM_134 hp | exact lkM_130 hp | exact lkM_131 hp | exact lkM_132 hp | exact lkM_135 hp | exact lkM_136 hp | exact lkM_137 hp | exact lkM_138 hp | exact lkM_145 hp | exact lkM_146 hp | exact lkM_139 hp | exact lkM_140 hp | exact lkM_141 hp | exact lkM_142 hp | exact lkM_143 hp); rfl) rfl ?_
    refine j_bipush (pc := 17) dX7_chalked_17 kb_15 ?_
    refine j_iload_n (pc := 19) dX7_chalked_19 rfl ?_
    refine j_iadd (pc := 20) dX7_chalked_20 ?_
    refine j_ialdE (pc := 21) dX7_chalked_21 (by apply lkE; (with_reducible first | exact lkM_129 hp | exact lkM_133 hp | exact lkM_144 hp | exact lkM_134 hp | exact lkM_130 hp | exact lkM_131 hp | exact lkM_132 hp | exact lkM_135 hp | exact lkM_136 hp | exact lkM_137 hp | exact lkM_138 hp | exact lkM_145 hp | exact lkM_146 hp | exact lkM_139 hp | exact lkM_140 hp | exact lkM_141 hp | exact lkM_142 hp | exact lkM_143 hp); rfl) rfl (nIa 15 k) (by omega) (by decide) ?_
    refine j_bipush (pc := 22) dX7_chalked_22 kb_m9 ?_
    refine j_icmp_ne (pc := 24) (tgt := 31) dX7_chalked_24 rfl (fun zc24 => ?_) (fun zc24 => ?_)
    · refine j_iconst (pc := 31) dX7_chalked_31 kc_1 ?_
      refine j_iload_n (pc := 32) dX7_chalked_32 rfl ?_
      refine j_ishl (pc := 33) dX7_chalked_33 ?_
      refine j_ior (pc := 34) dX7_chalked_34 ?_
      refine j_istore_n (pc := 35) dX7_chalked_35 rfl (Nat.le_of_ble_eq_true rfl) rfl ?_
      refine j_iinc (pc := 36) dX7_chalked_36 rfl rfl (Nat.le_of_ble_eq_true rfl) rfl ?_
      refine j_goto (pc := 39) (tgt := 4) dX7_chalked_39 rfl ?_
      rw [nI_s]
      refine ih (k + 1) _ (by omega) ?_
      first
        | simpa [iter, mcStep, bitI, *] using hq
        | (simp only [iter, mcStep, bitI, *, ↓reduceIte, not_false_eq_true, Bool.false_eq_true] at hq; exact hq)
    · refine j_iconst (pc := 27) dX7_chalked_27 kc_0 ?_
      refine j_goto (pc := 28) (tgt := 34) dX7_chalked_28 rfl ?_
      refine j_ior (pc := 34) dX7_chalked_34 ?_
      refine j_istore_n (pc := 35) dX7_chalked_35 rfl (Nat.le_of_ble_eq_true rfl) rfl ?_
      refine j_iinc (pc := 36) dX7_chalked_36 rfl rfl (Nat.le_of_ble_eq_true rfl) rfl ?_
      refine j_goto (pc := 39) (tgt := 4) dX7_chalked_39 rfl ?_
      rw [nI_s]
      refine ih (k + 1) _ (by omega) ?_
      first
        | simpa [iter, mcStep, bitI, *] using hq
        | (simp only [iter, mcStep, bitI, *, ↓reduceIte, not_false_eq_true, Bool.false_eq_true] at hq; exact hq)

set_option maxRecDepth 20000 in
set_option maxHeartbeats 200000 in
theorem m_chalked (hp : pre.length = 129) {n : Nat} (hdd : da = nI n) (hn : n ≤ 6) : CD g 0 mX7_chalked [.ref 129] (W2 pre de we da bo be sg pi ru st wa kn im ik tm to tr tx tn cu sa tk nu wr it sd swt sdd sbx sfl sdi sb sst sp sr nw od bs) (some (.int (iter (mcStep st) n 0 0))) (W2 pre de we da bo be sg pi ru st wa kn im ik tm to tr tx tn cu sa tk nu wr it sd swt sdd sbx sfl sdi sb sst sp sr nw od bs) := by
  refine C.of (by decide +kernel) (by simp [Value.category]) (Nat.le_of_ble_eq_true rfl) ?_
  change J g mX7_chalked 0 0 0 _ (W2 pre de we da bo be sg pi ru st wa kn im ik tm to tr tx tn cu sa tk nu wr it sd swt sdd sbx sfl sdi sb sst sp sr nw od bs) 0 [some (.ref 129), none, none] []
  refine j_iconst (pc := 0) dX7_chalked_0 kc_0 ?_
  refine j_istore_n (pc := 1) dX7_chalked_1 rfl (Nat.le_of_ble_eq_true rfl) rfl ?_
  refine j_iconst (pc := 2) dX7_chalked_2 kc_0 ?_
  refine j_istore_n (pc := 3) dX7_chalked_3 rfl (Nat.le_of_ble_eq_true rfl) rfl ?_
  exact ml_chalked hp hdd hn n 0 0 (by omega) ⟨rfl, rfl⟩

set_option maxRecDepth 20000 in
set_option maxHeartbeats 200000 in
theorem ml_whoDid (hp : pre.length = 129) {s : Int32} {n : Nat} (hdd : da = nI n) (hn : n ≤ 6) : ∀ (m k : Nat) (a : Int32), k + m = n → Q (some (.int (iter (mdStep st s) m k a))) (W2 pre de we da bo be sg pi ru st wa kn im ik tm to tr tx tn cu sa tk nu wr it sd swt sdd sbx sfl sdi sb sst sp sr nw od bs) → J g mX7_whoDid 1 0 0 Q (W2 pre de we da bo be sg pi ru st wa kn im ik tm to tr tx tn cu sa tk nu wr it sd swt sdd sbx sfl sdi sb sst sp sr nw od bs) 4 [some (.ref 129), some (.int s), some (.int a), some (.int (nI k))] [] := by
  intro m
  induction m with
  | zero =>
    intro k a hk hq
    refine j_iload_n (pc := 4) dX7_whoDid_4 rfl ?_
    refine j_aload_n (pc := 5) dX7_whoDid_5 rfl ?_
    refine j_getf (pc := 6) dX7_whoDid_6 fl_X7_76 (by apply lkE; (with_reducible first | exact lkM_129 hp | exact lkM_133 hp | exact lkM_144 hp | exact lkM_134 hp | exact lkM_130 hp | exact lkM_131 hp | exact lkM_132 hp | exact lkM_135 hp | exact lkM_136 hp | exact lkM_137 hp | exact lkM_138 hp | exact lkM_145 hp | exact lkM_146 hp | exact lkM_139 hp | exact lkM_140 hp | exact lkM_141 hp | exact lkM_142 hp | exact lkM_143 hp); rfl) rfl ?_
    refine j_icmp_ge (pc := 9) (tgt := 44) dX7_whoDid_9 rfl (fun _ => ?_) (fun zc9 => absurd (by rw [hdd]; exact nI_le (by omega) (by omega)) zc9)
    refine j_iload_n (pc := 44) dX7_whoDid_44 rfl ?_
    refine j_ireturn (pc := 45) dX7_whoDid_45 rfl ?_
    exact hq
  | succ m ih =>
    intro k a hk hq
    refine j_iload_n (pc := 4) dX7_whoDid_4 rfl ?_
    refine j_aload_n (pc := 5) dX7_whoDid_5 rfl ?_
    refine j_getf (pc := 6) dX7_whoDid_6 fl_X7_76 (by apply lkE; (with_reducible first | exact lkM_129 hp | exact lkM_133 hp | exact lkM_144 hp | exact lkM_134 hp | exact lkM_130 hp | exact lkM_131 hp | exact lkM_132 hp | exact lkM_135 hp | exact lkM_136 hp | exact lkM_137 hp | exact lkM_138 hp | exact lkM_145 hp | exact lkM_146 hp | exact lkM_139 hp | exact lkM_140 hp | exact lkM_141 hp | exact lkM_142 hp | exact lkM_143 hp); rfl) rfl ?_
    refine j_icmp_ge (pc := 9) (tgt := 44) dX7_whoDid_9 rfl (fun zc9 => absurd zc9 (by rw [hdd]; exact nI_ge (by omega) (by omega))) (fun _ => ?_)
    refine j_iload_n (pc := 12) dX7_whoDid_12 rfl ?_
    refine j_aload_n (pc := 13) dX7_whoDid_13 rfl ?_
    refine j_getf (pc := 14) dX7_whoDid_14 fl_X7_26 (by apply lkE; (with_reducible first | exact lkM_129 hp | exact lkM_133 hp | exact lkM_144 hp | exact lkM_134 hp | exact lkM_130 hp | exact lkM_131 hp | exact lkM_132 hp | exact lkM_135 hp | exact lkM_136 hp | exact lkM_137 hp | exact lkM_138 hp | exact lkM_145 hp | exact lkM_146 hp | exact lkM_139 hp | exact lkM_140 hp | exact lkM_141 hp | exact lkM_142 hp | exact lkM_143 hp); rfl) rfl ?_
    refine j_bipush (pc := 17) dX7_whoDid_17 kb_9 ?_
    refine j_iload_n (pc := 19) dX7_whoDid_19 rfl ?_
    refine j_iadd (pc := 20) dX7_whoDid_20 ?_
    refine j_ialdE (pc := 21) dX7_whoDid_21 (by apply lkE; (with_reducible first | exact lkM_129 hp | exact lkM_133 hp | exact lkM_144 hp | exact lkM_134 hp | exact lkM_130 hp | exact lkM_131 hp | exact lkM_132 hp | exact lkM_135 hp | exact lkM_136 hp | exact lkM_137 hp | exact lkM_138 hp | exact lkM_145 hp | exact lkM_146 hp | exact lkM_139 hp | exact lkM_140 hp | exact lkM_141 hp | exact lkM_142 hp | exact lkM_143 hp); rfl) rfl (nIa 9 k) (by omega) (by decide) ?_
    refine j_iload_n (pc := 22) dX7_whoDid_22 rfl ?_
    refine j_s2 (pc := 23) dX7_whoDid_23 mc_X7_has ml_X7_119 sm_X7_has (by omega) (m_has) (Nat.le_of_ble_eq_true rfl) ?_
    refine j_beq (pc := 26) (tgt := 35) dX7_whoDid_26 rfl (fun zc26 => ?_) (fun zc26 => ?_)
    · refine j_iconst (pc := 35) dX7_whoDid_35 kc_0 ?_
      refine j_ior (pc := 36) dX7_whoDid_36 ?_
      refine j_istore_n (pc := 37) dX7_whoDid_37 rfl (Nat.le_of_ble_eq_true rfl) rfl ?_
      refine j_iinc (pc := 38) dX7_whoDid_38 rfl rfl (Nat.le_of_ble_eq_true rfl) rfl ?_
      refine j_goto (pc := 41) (tgt := 4) dX7_whoDid_41 rfl ?_
      rw [nI_s]
      refine ih (k + 1) _ (by omega) ?_
      first
        | simpa [iter, mdStep, bitI, *] using hq
        | (simp only [iter, mdStep, bitI, *, ↓reduceIte, not_false_eq_true, Bool.false_eq_true] at hq; exact hq)
    · refine j_iconst (pc := 29) dX7_whoDid_29 kc_1 ?_
      refine j_iload_n (pc := 30) dX7_whoDid_30 rfl ?_
      refine j_ishl (pc := 31) dX7_whoDid_31 ?_
      refine j_goto (pc := 32) (tgt := 36) dX7_whoDid_32 rfl ?_
      refine j_ior (pc := 36) dX7_whoDid_36 ?_
      refine j_istore_n (pc := 37) dX7_whoDid_37 rfl (Nat.le_of_ble_eq_true rfl) rfl ?_
      refine j_iinc (pc := 38) dX7_whoDid_38 rfl rfl (Nat.le_of_ble_eq_true rfl) rfl ?_
      refine j_goto (pc := 41) (tgt := 4) dX7_whoDid_41 rfl ?_
      rw [nI_s]
      refine ih (k + 1) _ (by omega) ?_
      first
        | simpa [iter, mdStep, bitI, *] using hq
        | (simp only [iter, mdStep, bitI, *, ↓reduceIte, not_false_eq_true, Bool.false_eq_true] at hq; exact hq)

set_option maxRecDepth 20000 in
set_option maxHeartbeats 200000 in
theorem m_whoDid (hp : pre.length = 129) {s : Int32} {n : Nat} (hdd : da = nI n) (hn : n ≤ 6) : CD g 1 mX7_whoDid [.ref 129, .int s] (W2 pre de we da bo be sg pi ru st wa kn im ik tm to tr tx tn cu sa tk nu wr it sd swt sdd sbx sfl sdi sb sst sp sr nw od bs) (some (.int (iter (mdStep st s) n 0 0))) (W2 pre de we da bo be sg pi ru st wa kn im ik tm to tr tx tn cu sa tk nu wr it sd swt sdd sbx sfl sdi sb sst sp sr nw od bs) := by
  refine C.of (by decide +kernel) (by simp [Value.category]) (Nat.le_of_ble_eq_true rfl) ?_
  change J g mX7_whoDid 1 0 0 _ (W2 pre de we da bo be sg pi ru st wa kn im ik tm to tr tx tn cu sa tk nu wr it sd swt sdd sbx sfl sdi sb sst sp sr nw od bs) 0 [some (.ref 129), some (.int s), none, none] []
  refine j_iconst (pc := 0) dX7_whoDid_0 kc_0 ?_
  refine j_istore_n (pc := 1) dX7_whoDid_1 rfl (Nat.le_of_ble_eq_true rfl) rfl ?_
  refine j_iconst (pc := 2) dX7_whoDid_2 kc_0 ?_
  refine j_istore_n (pc := 3) dX7_whoDid_3 rfl (Nat.le_of_ble_eq_true rfl) rfl ?_
  exact ml_whoDid hp hdd hn n 0 0 (by omega) ⟨rfl, rfl⟩

end

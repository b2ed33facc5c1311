/-! the reference: the order -/
section
variable {g : GG} {h : List AC} {Q : Option Value → List AC → Prop} {pre : List AC} {de : Int32} {we : Fn} {da : Int32} {bo : Fn} {be : Int32} {sg : Fn} {pi : Int32} {ru : Int32} {st : Fn} {wa : Fn} {kn : Int32} {im : Fn} {ik : Nat → Bool} {tm : Int32} {to : Fn} {tr : Int64} {tx : Fn} {tn : Int32} {cu : Int32} {sa : Int32} {tk : Int32} {nu : Int32} {wr : Bool} {it : Int32} {sd : Int32} {swt : Fn} {sdd : Int32} {sbx : Fn} {sfl : Fn} {sdi : Fn} {sb : Int32} {sst : Fn} {sp : Int32} {sr : Int32} {nw : Fn} {od : Fn} {bs : Fn}
def ioM (set : Int32) : Nat → Nat → Fn → Int32 → Bool → Fn × Bool
  | 0, _, od, _, b => (od, b)
  | c + 1, q, od, met, b => ioM set c (q / 6) (upd od c (nI (q % 6))) (met ||| bitI (nI (q % 6))) (b && mhas (set &&& (met ^^^ -1)) (nI (q % 6)))
def vO (od : Fn) (k : Nat) : Nat := (od k).toNatClampNeg
def gdO (od : Fn) (k : Nat) : Prop := od k = nI (vO od k) ∧ vO od k < 6
theorem ioM_ok {set : Int32} : ∀ (c q : Nat) (od : Fn) (met : Int32) (b : Bool) (k : Nat), (k < c ∨ gdO od k) → gdO (ioM set c q od met b).1 k
  | 0, q, od, met, b, k, h => by
    rcases h with h | h
    · omega
    · exact h
  | c + 1, q, od, met, b, k, h => by
    unfold ioM
    apply ioM_ok c
    by_cases e : k = c
    · refine Or.inr ?_
      subst e
      have e1 : upd od k (nI (q % 6)) k = nI (q % 6) := if_pos rfl
      have e2 : vO (upd od k (nI (q % 6))) k = q % 6 := by
        unfold vO
        rw [e1, nI_clamp (by omega)]
      unfold gdO
      rw [e2, e1]
      exact ⟨rfl, by omega⟩
    · rcases h with h | h
      · exact Or.inl (by omega)
      · refine Or.inr ?_
        have e1 : upd od c (nI (q % 6)) k = od k := if_neg e
        unfold gdO vO
        rw [e1]
        exact h
theorem div6 {q : Nat} (h : q < 2 ^ 31) : nI q / 6 = nI (q / 6) := by
  apply Int32.toInt_inj.mp
  rw [Int32.toInt_div, nI_toInt h, nI_toInt (by omega), show (6 : Int32).toInt = ((6 : Nat) : Int) from by decide, ← Int.ofNat_tdiv]
  exact Int.bmod_eq_of_le (by omega) (by omega)
theorem rem6 {q : Nat} (h : q < 2 ^ 31) : nI q - nI q / 6 * 6 = nI (q % 6) := by
  apply Int32.toInt_inj.mp
  rw [irem_toInt (by decide), nI_toInt h, nI_toInt (by omega), show (6 : Int32).toInt = ((6 : Nat) : Int) from by decide, ← Int.ofNat_tmod]
theorem dec_nI (x : Int32) : x + Int32.ofInt (-1) = x - 1 := by
  rw [Int32.sub_eq_add_neg]
  rfl
theorem six_nI {n : Nat} (h : n ≤ 6) : powI 6 n 0 1 = nI (6 ^ n) ∧ 6 ^ n ≤ 46656 := by
  have : ∀ n, n < 7 → powI 6 n 0 1 = nI (6 ^ n) ∧ 6 ^ n ≤ 46656 := by decide +kernel
  exact this n (by omega)
def dbStep (pi : Int32) (we bo od : Fn) (ne k : Nat) (a : Int32 × Fn) : Int32 × Fn :=
  (a.1 + msz (laT pi a.2 (mlI we bo a.2 ne (vO od k)) - mlI we bo a.2 ne (vO od k)), laN pi a.2 (mlI we bo a.2 ne (vO od k)) (vO od k))
def dfF (pi : Int32) (we bo st od : Fn) (ne mn : Nat) : Int32 × Fn := iter (dbStep pi we bo od ne) mn 0 (0, st)
def moC2 (sm : Int32) (od : Fn) (a : Int32 × Fn × Fn) : Int32 × Fn × Fn := if a.1 < 0 then (sm, od, od) else if a.1 ≤ sm then (a.1, a.2.1, od) else (sm, od, od)
def moStep (pi : Int32) (we bo st : Fn) (ne mn : Nat) (set : Int32) (q : Nat) (a : Int32 × Fn × Fn) : Int32 × Fn × Fn :=
  if (ioM set mn q a.2.2 0 true).2 then moC2 (dfF pi we bo st (ioM set mn q a.2.2 0 true).1 ne mn).1 (ioM set mn q a.2.2 0 true).1 a else (a.1, a.2.1, (ioM set mn q a.2.2 0 true).1)
def moF (pi : Int32) (we bo st bs od : Fn) (ne mn : Nat) (set : Int32) : Int32 × Fn × Fn := iter (moStep pi we bo st ne mn set) (6 ^ mn) 0 (-1, bs, od)
def moSet (st : Fn) (n : Nat) : Int32 := allI (nI n) &&& (iter (mcStep st) n 0 0 ^^^ -1)
set_option maxRecDepth 20000 in
set_option maxHeartbeats 200000 in
theorem ml_sixes {n : Nat} (hn : n ≤ 6) : ∀ (m k : Nat) (a : Int32), k + m = n → J g mX7_sixes 0 0 0 (fun r h' => r = some (.int (powI 6 m k a)) ∧ h' = h) h 4 [some (.int (nI n)), some (.int a), some (.int (nI k))] [] := by
  intro m
  induction m with
  | zero =>
    intro k a hk
    refine j_iload_n (pc := 4) dX7_sixes_4 rfl ?_
    refine j_iload_n (pc := 5) dX7_sixes_5 rfl ?_
    refine j_icmp_ge (pc := 6) (tgt := 20) dX7_sixes_6 rfl (fun _ => ?_) (fun zc6 => absurd (nI_le (a := n) (b := k) (by omega) (by omega)) zc6)
    refine j_iload_n (pc := 20) dX7_sixes_20 rfl ?_
    refine j_ireturn (pc := 21) dX7_sixes_21 rfl ?_
    exact ⟨rfl, rfl⟩
  | succ m ih =>
    intro k a hk
    refine j_iload_n (pc := 4) dX7_sixes_4 rfl ?_
    refine j_iload_n (pc := 5) dX7_sixes_5 rfl ?_
    refine j_icmp_ge (pc := 6) (tgt := 20) dX7_sixes_6 rfl (fun zc6 => absurd zc6 (nI_ge (a := k) (b := n) (by omega) (by omega))) (fun _ => ?_)
    refine j_iload_n (pc := 9) dX7_sixes_9 rfl ?_
    refine j_bipush (pc := 10) dX7_sixes_10 kb_6 ?_
    refine j_imul (pc := 12) dX7_sixes_12 ?_
    refine j_istore_n (pc := 13) dX7_sixes_13 rfl (Nat.le_of_ble_eq_true rfl) rfl ?_
    refine j_iinc (pc := 14) dX7_sixes_14 rfl rfl (Nat.le_of_ble_eq_true rfl) rfl ?_
    refine j_goto (pc := 17) (tgt := 4) dX7_sixes_17 rfl ?_
    rw [nI_s]
    exact ih (k + 1) (a * 6) (by omega)

set_option maxRecDepth 20000 in
set_option maxHeartbeats 200000 in
theorem m_sixes {n : Nat} (hn : n ≤ 6) : CD g 0 mX7_sixes [.int (nI n)] h (some (.int (nI (6 ^ n)))) h := by
  refine C.of (by decide +kernel) (by simp [Value.category]) (Nat.le_of_ble_eq_true rfl) ?_
  change J g mX7_sixes 0 0 0 _ h 0 [some (.int (nI n)), none, none] []
  refine j_iconst (pc := 0) dX7_sixes_0 kc_1 ?_
  refine j_istore_n (pc := 1) dX7_sixes_1 rfl (Nat.le_of_ble_eq_true rfl) rfl ?_
  refine j_iconst (pc := 2) dX7_sixes_2 kc_0 ?_
  refine j_istore_n (pc := 3) dX7_sixes_3 rfl (Nat.le_of_ble_eq_true rfl) rfl ?_
  rw [← (six_nI hn).1]
  exact ml_sixes hn n 0 1 (by omega)

set_option maxRecDepth 20000 in
set_option maxHeartbeats 200000 in
theorem ml_isOrder (hp : pre.length = 129) {nu0 ma set : Int32} : ∀ (m q : Nat) (od : Fn) (met : Int32) (b : Bool), m ≤ 6 → q < 50000 → Q (some (.int (b2i (ioM set m q od met b).2))) (W2 pre de we da bo be sg pi ru st wa kn im ik tm to tr tx tn cu sa tk nu wr it sd swt sdd sbx sfl sdi sb sst sp sr nw ((ioM set m q od met b).1) bs) → J g mX7_isOrder 1 0 0 Q (W2 pre de we da bo be sg pi ru st wa kn im ik tm to tr tx tn cu sa tk nu wr it sd swt sdd sbx sfl sdi sb sst sp sr nw od bs) 14 [some (.ref 129), some (.int nu0), some (.int ma), some (.int set), some (.int (nI q)), some (.int met), some (.int (b2i b)), some (.int (nI m - 1))] [] := by
  intro m
  induction m with
  | zero =>
    intro q od met b hm hq6 hq
    try rw [nI_pred]
    refine j_iload (pc := 14) dX7_isOrder_14 rfl ?_
    refine j_if_lt (pc := 16) (tgt := 89) dX7_isOrder_16 rfl (fun _ => ?_) (fun zc16 => absurd (show nI 0 - 1 < 0 from by decide) zc16)
    refine j_iload (pc := 89) dX7_isOrder_89 rfl ?_
    refine j_zret (pc := 91) (b := b) dX7_isOrder_91 rfl rfl ?_
    exact hq
  | succ m ih =>
    intro q od met b hm hq6 hq
    try rw [nI_pred]
    refine j_iload (pc := 14) dX7_isOrder_14 rfl ?_
    refine j_if_lt (pc := 16) (tgt := 89) dX7_isOrder_16 rfl (fun zc16 => absurd zc16 (nI_pos (by omega))) (fun _ => ?_)
    refine j_aload_n (pc := 19) dX7_isOrder_19 rfl ?_
    refine j_getf (pc := 20) dX7_isOrder_20 fl_X7_63 (by apply lkE; (with_reducible first | exact lkM_129 hp | exact lkM_133 hp | exact lkM_144 hp | exact lkM_134 hp | exact lkM_130 hp | exact lkM_131 hp | exact lkM_132 hp | exact lkM_135 hp | exact lkM_136 hp | exact lkM_137 hp | exact lkM_138 hp | exact lkM_145 hp | exact lkM_146 hp | exact lkM_139 hp | exact lkM_140 hp | exact lkM_141 hp | exact lkM_142 hp | exact lkM_143 hp); rfl) rfl ?_
    refine j_iload (pc := 23) dX7_isOrder_23 rfl ?_
    refine j_iload (pc := 25) dX7_isOrder_25 rfl ?_
    refine j_bipush (pc := 27) dX7_isOrder_27 kb_6 ?_
    refine j_irem (pc := 29) dX7_isOrder_29 (by decide) ?_
    rw [rem6 (by omega)]
    refine j_iastE (pc := 30) dX7_isOrder_30 (by apply lkE; (with_reducible first | exact lkM_129 hp | exact lkM_133 hp | exact lkM_144 hp | exact lkM_134 hp | exact lkM_130 hp | exact lkM_131 hp | exact lkM_132 hp | exact lkM_135 hp | exact lkM_136 hp | exact lkM_137 hp | exact lkM_138 hp | exact lkM_145 hp | exact lkM_146 hp | exact lkM_139 hp | exact lkM_140 hp | exact lkM_141 hp | exact lkM_142 hp | exact lkM_143 hp); rfl) rfl (by omega) (by decide) (upM_145 hp) ?_
    refine j_iload (pc := 31) dX7_isOrder_31 rfl ?_
    refine j_bipush (pc := 33) dX7_isOrder_33 kb_6 ?_
    refine j_idiv (pc := 35) dX7_isOrder_35 (by decide) ?_
    rw [div6 (by omega)]
    refine j_istore (pc := 36) dX7_isOrder_36 (Nat.le_of_ble_eq_true rfl) rfl ?_
    refine j_iload (pc := 38) dX7_isOrder_38 rfl ?_
    refine j_beq (pc := 40) (tgt := 66) dX7_isOrder_40 rfl (fun zc40 => ?_) (fun zc40 => ?_)
    · refine j_iconst (pc := 66) dX7_isOrder_66 kc_0 ?_
      refine j_istore (pc := 67) dX7_isOrder_67 (Nat.le_of_ble_eq_true rfl) rfl ?_
      refine j_iload (pc := 69) dX7_isOrder_69 rfl ?_
      refine j_iconst (pc := 71) dX7_isOrder_71 kc_1 ?_
      refine j_aload_n (pc := 72) dX7_isOrder_72 rfl ?_
      refine j_getf (pc := 73) dX7_isOrder_73 fl_X7_63 (by apply lkE; (with_reducible first | exact lkM_129 hp | exact lkM_133 hp | exact lkM_144 hp | exact lkM_134 hp | exact lkM_130 hp | exact lkM_131 hp | exact lkM_132 hp | exact lkM_135 hp | exact lkM_136 hp | exact lkM_137 hp | exact lkM_138 hp | exact lkM_145 hp | exact lkM_146 hp | exact lkM_139 hp | exact lkM_140 hp | exact lkM_141 hp | exact lkM_142 hp | exact lkM_143 hp); rfl) rfl ?_
      refine j_iload (pc := 76) dX7_isOrder_76 rfl ?_
      refine j_ialdE (pc := 78) dX7_isOrder_78 (by apply lkE; (with_reducible first | exact lkM_129 hp | exact lkM_133 hp | exact lkM_144 hp | exact lkM_134 hp | exact lkM_130 hp | exact lkM_131 hp | exact lkM_132 hp | exact lkM_135 hp | exact lkM_136 hp | exact lkM_137 hp | exact lkM_138 hp | exact lkM_145 hp | exact lkM_146 hp | exact lkM_139 hp | exact lkM_140 hp | exact lkM_141 hp | exact lkM_142 hp | exact lkM_143 hp); rfl) rfl rfl (by omega) (by decide) ?_
      rw [upd_eq]
      refine j_ishl (pc := 79) dX7_isOrder_79 ?_
      rw [show (1 : Int32) <<< (nI (q % 6) &&& 31) = bitI (nI (q % 6)) from rfl]
      refine j_ior (pc := 80) dX7_isOrder_80 ?_
      refine j_istore (pc := 81) dX7_isOrder_81 (Nat.le_of_ble_eq_true rfl) rfl ?_
      refine j_iinc (pc := 83) dX7_isOrder_83 rfl rfl (Nat.le_of_ble_eq_true rfl) rfl ?_
      refine j_goto (pc := 86) (tgt := 14) dX7_isOrder_86 rfl ?_
      rw [dec_nI]
      first
        | (rw [show ioM set (m + 1) q od met b = ioM set m (q / 6) (upd od m (nI (q % 6))) (met ||| bitI (nI (q % 6))) true from by rw [ioM, zc40, zc59]; rfl] at hq; exact ih (q / 6) _ _ true (by omega) (by omega) hq)
        | (rw [show ioM set (m + 1) q od met b = ioM set m (q / 6) (upd od m (nI (q % 6))) (met ||| bitI (nI (q % 6))) false from by rw [ioM, zc40, zc59]; rfl] at hq; exact ih (q / 6) _ _ false (by omega) (by omega) hq)
        | (rw [show ioM set (m + 1) q od met b = ioM set m (q / 6) (upd od m (nI (q % 6))) (met ||| bitI (nI (q % 6))) false from by rw [ioM, zc40]; rfl] at hq; exact ih (q / 6) _ _ false (by omega) (by omega) hq)
    · refine j_iload_n (pc := 43) dX7_isOrder_43 rfl ?_
      refine j_iload (pc := 44) dX7_isOrder_44 rfl ?_
      refine j_iconst (pc := 46) dX7_isOrder_46 kc_m1 ?_
      refine j_ixor (pc := 47) dX7_isOrder_47 ?_
      refine j_iand (pc := 48) dX7_isOrder_48 ?_
      refine j_aload_n (pc := 49) dX7_isOrder_49 rfl ?_
      refine j_getf (pc := 50) dX7_isOrder_50 fl_X7_63 (by apply lkE; (with_reducible first | exact lkM_129 hp | exact lkM_133 hp | exact lkM_144 hp | exact lkM_134 hp | exact lkM_130 hp | exact lkM_131 hp | exact lkM_132 hp | exact lkM_135 hp | exact lkM_136 hp | exact lkM_137 hp | exact lkM_138 hp | exact lkM_145 hp | exact lkM_146 hp | exact lkM_139 hp | exact lkM_140 hp | exact lkM_141 hp | exact lkM_142 hp | exact lkM_143 hp); rfl) rfl ?_
      refine j_iload (pc := 53) dX7_isOrder_53 rfl ?_
      refine j_ialdE (pc := 55) dX7_isOrder_55 (by apply lkE; (with_reducible first | exact lkM_129 hp | exact lkM_133 hp | exact lkM_144 hp | exact lkM_134 hp | exact lkM_130 hp | exact lkM_131 hp | exact lkM_132 hp | exact lkM_135 hp | exact lkM_136 hp | exact lkM_137 hp | exact lkM_138 hp | exact lkM_145 hp | exact lkM_146 hp | exact lkM_139 hp | exact lkM_140 hp | exact lkM_141 hp | exact lkM_142 hp | exact lkM_143 hp); rfl) rfl rfl (by omega) (by decide) ?_
      rw [upd_eq]
      refine j_s2 (pc := 56) dX7_isOrder_56 mc_X7_has ml_X7_119 sm_X7_has (by omega) (m_has) (Nat.le_of_ble_eq_true rfl) ?_
      refine j_beq (pc := 59) (tgt := 66) dX7_isOrder_59 rfl (fun zc59 => ?_) (fun zc59 => ?_)
      · refine j_iconst (pc := 66) dX7_isOrder_66 kc_0 ?_
        refine j_istore (pc := 67) dX7_isOrder_67 (Nat.le_of_ble_eq_true rfl) rfl ?_
        refine j_iload (pc := 69) dX7_isOrder_69 rfl ?_
        refine j_iconst (pc := 71) dX7_isOrder_71 kc_1 ?_
        refine j_aload_n (pc := 72) dX7_isOrder_72 rfl ?_
        refine j_getf (pc := 73) dX7_isOrder_73 fl_X7_63 (by apply lkE; (with_reducible first | exact lkM_129 hp | exact lkM_133 hp | exact lkM_144 hp | exact lkM_134 hp | exact lkM_130 hp | exact lkM_131 hp | exact lkM_132 hp | exact lkM_135 hp | exact lkM_136 hp | exact lkM_137 hp | exact lkM_138 hp | exact lkM_145 hp | exact lkM_146 hp | exact lkM_139 hp | exact lkM_140 hp | exact lkM_141 hp | exact lkM_142 hp | exact lkM_143 hp); rfl) rfl ?_
        refine j_iload (pc := 76) dX7_isOrder_76 rfl ?_
        refine j_ialdE (pc := 78) dX7_isOrder_78 (by apply lkE; (with_reducible first | exact lkM_129 hp | exact lkM_133 hp | exact lkM_144 hp | exact lkM_134 hp | exact lkM_130 hp | exact lkM_131 hp | exact lkM_132 hp | exact lkM_135 hp | exact lkM_136 hp | exact lkM_137 hp | exact lkM_138 hp | exact lkM_145 hp | exact lkM_146 hp | exact lkM_139 hp | exact lkM_140 hp | exact lkM_141 hp | exact lkM_142 hp | exact lkM_143 hp); rfl) rfl rfl (by omega) (by decide) ?_
        rw [upd_eq]
        refine j_ishl (pc := 79) dX7_isOrder_79 ?_
        rw [show (1 : Int32) <<< (nI (q % 6) &&& 31) = bitI (nI (q % 6)) from rfl]
        refine j_ior (pc := 80) dX7_isOrder_80 ?_
        refine j_istore (pc := 81) dX7_isOrder_81 (Nat.le_of_ble_eq_true rfl) rfl ?_
        refine j_iinc (pc := 83) dX7_isOrder_83 rfl rfl (Nat.le_of_ble_eq_true rfl) rfl ?_
        refine j_goto (pc := 86) (tgt := 14) dX7_isOrder_86 rfl ?_
        rw [dec_nI]
        first
          | (rw [show ioM set (m + 1) q od met b = ioM set m (q / 6) (upd od m (nI (q % 6))) (met ||| bitI (nI (q % 6))) true from by rw [ioM, zc40, zc59]; rfl] at hq; exact ih (q / 6) _ _ true (by omega) (by omega) hq)
          | (rw [show ioM set (m + 1) q od met b = ioM set m (q / 6) (upd od m (nI (q % 6))) (met ||| bitI (nI (q % 6))) false from by rw [ioM, zc40, zc59]; rfl] at hq; exact ih (q / 6) _ _ false (by omega) (by omega) hq)
          | (rw [show ioM set (m + 1) q od met b = ioM set m (q / 6) (upd od m (nI (q % 6))) (met ||| bitI (nI (q % 6))) false from by rw [ioM, zc40]; rfl] at hq; exact ih (q / 6) _ _ false (by omega) (by omega) hq)
      · refine j_iconst (pc := 62) dX7_isOrder_62 kc_1 ?_
        refine j_goto (pc := 63) (tgt := 67) dX7_isOrder_63 rfl ?_
        refine j_istore (pc := 67) dX7_isOrder_67 (Nat.le_of_ble_eq_true rfl) rfl ?_
        refine j_iload (pc := 69) dX7_isOrder_69 rfl ?_
        refine j_iconst (pc := 71) dX7_isOrder_71 kc_1 ?_
        refine j_aload_n (pc := 72) dX7_isOrder_72 rfl ?_
        refine j_getf (pc := 73) dX7_isOrder_73 fl_X7_63 (by apply lkE; (with_reducible first | exact lkM_129 hp | exact lkM_133 hp | exact lkM_144 hp | exact lkM_134 hp | exact lkM_130 hp | exact lkM_131 hp | exact lkM_132 hp | exact lkM_135 hp | exact lkM_136 hp | exact lkM_137 hp | exact lkM_138 hp | exact lkM_145 hp | exact lkM_146 hp | exact lkM_139 hp | exact lkM_140 hp | exact lkM_141 hp | exact lkM_142 hp | exact lkM_143 hp); rfl) rfl ?_
        refine j_iload (pc := 76) dX7_isOrder_76 rfl ?_
        refine j_ialdE (pc := 78) dX7_isOrder_78 (by apply lkE; (with_reducible first | exact lkM_129 hp | exact lkM_133 hp | exact lkM_144 hp | exact lkM_134 hp | exact lkM_130 hp | exact lkM_131 hp | exact lkM_132 hp | exact lkM_135 hp | exact lkM_136 hp | exact lkM_137 hp | exact lkM_138 hp | exact lkM_145 hp | exact lkM_146 hp | exact lkM_139 hp | exact lkM_140 hp | exact lkM_141 hp | exact lkM_142 hp | exact lkM_143 hp); rfl) rfl rfl (by omega) (by decide) ?_
        rw [upd_eq]
        refine j_ishl (pc := 79) dX7_isOrder_79 ?_
        rw [show (1 : Int32) <<< (nI (q % 6) &&& 31) = bitI (nI (q % 6)) from rfl]
        refine j_ior (pc := 80) dX7_isOrder_80 ?_
        refine j_istore (pc := 81) dX7_isOrder_81 (Nat.le_of_ble_eq_true rfl) rfl ?_
        refine j_iinc (pc := 83) dX7_isOrder_83 rfl rfl (Nat.le_of_ble_eq_true rfl) rfl ?_
        refine j_goto (pc := 86) (tgt := 14) dX7_isOrder_86 rfl ?_
        rw [dec_nI]
        first
          | (rw [show ioM set (m + 1) q od met b = ioM set m (q / 6) (upd od m (nI (q % 6))) (met ||| bitI (nI (q % 6))) true from by rw [ioM, zc40, zc59]; rfl] at hq; exact ih (q / 6) _ _ true (by omega) (by omega) hq)
          | (rw [show ioM set (m + 1) q od met b = ioM set m (q / 6) (upd od m (nI (q % 6))) (met ||| bitI (nI (q % 6))) false from by rw [ioM, zc40, zc59]; rfl] at hq; exact ih (q / 6) _ _ false (by omega) (by omega) hq)
          | (rw [show ioM set (m + 1) q od met b = ioM set m (q / 6) (upd od m (nI (q % 6))) (met ||| bitI (nI (q % 6))) false from by rw [ioM, zc40]; rfl] at hq; exact ih (q / 6) _ _ false (by omega) (by omega) hq)

set_option maxRecDepth 20000 in
set_option maxHeartbeats 200000 in
theorem m_isOrder (hp : pre.length = 129) {q mn : Nat} {set : Int32} (hmn : mn ≤ 6) (hq6 : q < 50000) : CD g 1 mX7_isOrder [.ref 129, .int (nI q), .int (nI mn), .int set] (W2 pre de we da bo be sg pi ru st wa kn im ik tm to tr tx tn cu sa tk nu wr it sd swt sdd sbx sfl sdi sb sst sp sr nw od bs) (some (.int (b2i (ioM set mn q od 0 true).2))) (W2 pre de we da bo be sg pi ru st wa kn im ik tm to tr tx tn cu sa tk nu wr it sd swt sdd sbx sfl sdi sb sst sp sr nw ((ioM set mn q od 0 true).1) bs) := by
  refine C.of (by decide +kernel) (by simp [Value.category]) (Nat.le_of_ble_eq_true rfl) ?_
  change J g mX7_isOrder 1 0 0 _ (W2 pre de we da bo be sg pi ru st wa kn im ik tm to tr tx tn cu sa tk nu wr it sd swt sdd sbx sfl sdi sb sst sp sr nw od bs) 0 [some (.ref 129), some (.int (nI q)), some (.int (nI mn)), some (.int set), none, none, none, none] []
  refine j_iload_n (pc := 0) dX7_isOrder_0 rfl ?_
  refine j_istore (pc := 1) dX7_isOrder_1 (Nat.le_of_ble_eq_true rfl) rfl ?_
  refine j_iconst (pc := 3) dX7_isOrder_3 kc_0 ?_
  refine j_istore (pc := 4) dX7_isOrder_4 (Nat.le_of_ble_eq_true rfl) rfl ?_
  refine j_iconst (pc := 6) dX7_isOrder_6 kc_1 ?_
  refine j_istore (pc := 7) dX7_isOrder_7 (Nat.le_of_ble_eq_true rfl) rfl ?_
  refine j_iload_n (pc := 9) dX7_isOrder_9 rfl ?_
  refine j_iconst (pc := 10) dX7_isOrder_10 kc_1 ?_
  refine j_isub (pc := 11) dX7_isOrder_11 ?_
  refine j_istore (pc := 12) dX7_isOrder_12 (Nat.le_of_ble_eq_true rfl) rfl ?_
  exact ml_isOrder hp mn q od 0 true hmn hq6 ⟨rfl, rfl⟩

set_option maxRecDepth 20000 in
set_option maxHeartbeats 200000 in
theorem ml_differs (hp : pre.length = 129) {mn : Nat} (hmn : mn ≤ 6) (ho : ∀ k, k < mn → gdO od k) {ne : Nat} (hde : de = nI ne) (hne : ne ≤ 6) : ∀ (m k : Nat) (a : Int32) (nw : Fn), k + m = mn → Q (some (.int (iter (dbStep pi we bo od ne) m k (a, nw)).1)) (W2 pre de we da bo be sg pi ru st wa kn im ik tm to tr tx tn cu sa tk nu wr it sd swt sdd sbx sfl sdi sb sst sp sr ((iter (dbStep pi we bo od ne) m k (a, nw)).2) od bs) → J g mX7_differsBy 5 0 0 Q (W2 pre de we da bo be sg pi ru st wa kn im ik tm to tr tx tn cu sa tk nu wr it sd swt sdd sbx sfl sdi sb sst sp sr nw od bs) 8 [some (.ref 129), some (.int (nI mn)), some (.int a), some (.int (nI k)), none] [] := by
  intro m
  induction m with
  | zero =>
    intro k a nw hk hq
    refine j_iload_n (pc := 8) dX7_differsBy_8 rfl ?_
    refine j_iload_n (pc := 9) dX7_differsBy_9 rfl ?_
    refine j_icmp_ge (pc := 10) (tgt := 50) dX7_differsBy_10 rfl (fun _ => ?_) (fun zc10 => absurd (nI_le (a := mn) (b := k) (by omega) (by omega)) zc10)
    refine j_iload_n (pc := 50) dX7_differsBy_50 rfl ?_
    refine j_ireturn (pc := 51) dX7_differsBy_51 rfl ?_
    exact hq
  | succ m ih =>
    intro k a nw hk hq
    refine j_iload_n (pc := 8) dX7_differsBy_8 rfl ?_
    refine j_iload_n (pc := 9) dX7_differsBy_9 rfl ?_
    refine j_icmp_ge (pc := 10) (tgt := 50) dX7_differsBy_10 rfl (fun zc10 => absurd zc10 (nI_ge (a := k) (b := mn) (by omega) (by omega))) (fun _ => ?_)
    obtain ⟨hv, hv6⟩ := ho k (by omega)
    refine j_aload_n (pc := 13) dX7_differsBy_13 rfl ?_
    refine j_aload_n (pc := 14) dX7_differsBy_14 rfl ?_
    refine j_getf (pc := 15) dX7_differsBy_15 fl_X7_63 (by apply lkE; (with_reducible first | exact lkM_129 hp | exact lkM_133 hp | exact lkM_144 hp | exact lkM_134 hp | exact lkM_130 hp | exact lkM_131 hp | exact lkM_132 hp | exact lkM_135 hp | exact lkM_136 hp | exact lkM_137 hp | exact lkM_138 hp | exact lkM_145 hp | exact lkM_146 hp | exact lkM_139 hp | exact lkM_140 hp | exact lkM_141 hp | exact lkM_142 hp | exact lkM_143 hp); rfl) rfl ?_
    refine j_iload_n (pc := 18) dX7_differsBy_18 rfl ?_
    refine j_ialdE (pc := 19) dX7_differsBy_19 (by apply lkE; (with_reducible first | exact lkM_129 hp | exact lkM_133 hp | exact lkM_144 hp | exact lkM_134 hp | exact lkM_130 hp | exact lkM_131 hp | exact lkM_132 hp | exact lkM_135 hp | exact lkM_136 hp | exact lkM_137 hp | exact lkM_138 hp | exact lkM_145 hp | exact lkM_146 hp | exact lkM_139 hp | exact lkM_140 hp | exact lkM_141 hp | exact lkM_142 hp | exact lkM_143 hp); rfl) rfl rfl (by omega) (by decide) ?_
    rw [hv]
    refine j_v1 (pc := 20) (ci := 7) dX7_differsBy_20 mc_X7_loadOf ml_X7_170 im_X7_loadOf se_X7_loadOf rfl rfl (by apply lkE; (with_reducible first | exact lkM_129 hp | exact lkM_133 hp | exact lkM_144 hp | exact lkM_134 hp | exact lkM_130 hp | exact lkM_131 hp | exact lkM_132 hp | exact lkM_135 hp | exact lkM_136 hp | exact lkM_137 hp | exact lkM_138 hp | exact lkM_145 hp | exact lkM_146 hp | exact lkM_139 hp | exact lkM_140 hp | exact lkM_141 hp | exact lkM_142 hp | exact lkM_143 hp); rfl) (by omega) (m_loadOf hp hv6 hde hne) (Nat.le_of_ble_eq_true rfl) ?_
    refine j_istore (pc := 23) dX7_differsBy_23 (Nat.le_of_ble_eq_true rfl) rfl ?_
    refine j_iload_n (pc := 25) dX7_differsBy_25 rfl ?_
    refine j_aload_n (pc := 26) dX7_differsBy_26 rfl ?_
    refine j_aload_n (pc := 27) dX7_differsBy_27 rfl ?_
    refine j_getf (pc := 28) dX7_differsBy_28 fl_X7_63 (by apply lkE; (with_reducible first | exact lkM_129 hp | exact lkM_133 hp | exact lkM_144 hp | exact lkM_134 hp | exact lkM_130 hp | exact lkM_131 hp | exact lkM_132 hp | exact lkM_135 hp | exact lkM_136 hp | exact lkM_137 hp | exact lkM_138 hp | exact lkM_145 hp | exact lkM_146 hp | exact lkM_139 hp | exact lkM_140 hp | exact lkM_141 hp | exact lkM_142 hp | exact lkM_143 hp); rfl) rfl ?_
    refine j_iload_n (pc := 31) dX7_differsBy_31 rfl ?_
    refine j_ialdE (pc := 32) dX7_differsBy_32 (by apply lkE; (with_reducible first | exact lkM_129 hp | exact lkM_133 hp | exact lkM_144 hp | exact lkM_134 hp | exact lkM_130 hp | exact lkM_131 hp | exact lkM_132 hp | exact lkM_135 hp | exact lkM_136 hp | exact lkM_137 hp | exact lkM_138 hp | exact lkM_145 hp | exact lkM_146 hp | exact lkM_139 hp | exact lkM_140 hp | exact lkM_141 hp | exact lkM_142 hp | exact lkM_143 hp); rfl) rfl rfl (by omega) (by decide) ?_
    rw [hv]
    refine j_v1 (pc := 33) (ci := 7) dX7_differsBy_33 mc_X7_laid ml_X7_179 im_X7_laid se_X7_laid rfl rfl (by apply lkE; (with_reducible first | exact lkM_129 hp | exact lkM_133 hp | exact lkM_144 hp | exact lkM_134 hp | exact lkM_130 hp | exact lkM_131 hp | exact lkM_132 hp | exact lkM_135 hp | exact lkM_136 hp | exact lkM_137 hp | exact lkM_138 hp | exact lkM_145 hp | exact lkM_146 hp | exact lkM_139 hp | exact lkM_140 hp | exact lkM_141 hp | exact lkM_142 hp | exact lkM_143 hp); rfl) (by omega) (m_laid hp hv6 hde hne) (Nat.le_of_ble_eq_true rfl) ?_
    refine j_iload (pc := 36) dX7_differsBy_36 rfl ?_
    refine j_isub (pc := 38) dX7_differsBy_38 ?_
    refine j_s1 (pc := 39) dX7_differsBy_39 mc_X7_size ml_X7_205 sm_X7_size (by omega) (m_size) (Nat.le_of_ble_eq_true rfl) ?_
    refine j_iadd (pc := 42) dX7_differsBy_42 ?_
    refine j_istore_n (pc := 43) dX7_differsBy_43 rfl (Nat.le_of_ble_eq_true rfl) rfl ?_
    refine j_iinc (pc := 44) dX7_differsBy_44 rfl rfl (Nat.le_of_ble_eq_true rfl) rfl ?_
    refine j_goto (pc := 47) (tgt := 8) dX7_differsBy_47 rfl ?_
    rw [nI_s]
    exact j_weak (ls' := [some _, some _, some _, some _, none]) ⟨rfl, rfl, rfl, rfl, trivial⟩ (ih (k + 1) _ _ (by omega) hq)

set_option maxRecDepth 20000 in
set_option maxHeartbeats 200000 in
theorem m_differs (hp : pre.length = 129) {mn : Nat} (hmn : mn ≤ 6) (ho : ∀ k, k < mn → gdO od k) {ne : Nat} (hde : de = nI ne) (hne : ne ≤ 6) : CD g 5 mX7_differsBy [.ref 129, .int (nI mn)] (W2 pre de we da bo be sg pi ru st wa kn im ik tm to tr tx tn cu sa tk nu wr it sd swt sdd sbx sfl sdi sb sst sp sr nw od bs) (some (.int ((dfF pi we bo st od ne mn).1))) (W2 pre de we da bo be sg pi ru st wa kn im ik tm to tr tx tn cu sa tk nu wr it sd swt sdd sbx sfl sdi sb sst sp sr ((dfF pi we bo st od ne mn).2) od bs) := by
  refine C.of (by decide +kernel) (by simp [Value.category]) (Nat.le_of_ble_eq_true rfl) ?_
  change J g mX7_differsBy 5 0 0 _ (W2 pre de we da bo be sg pi ru st wa kn im ik tm to tr tx tn cu sa tk nu wr it sd swt sdd sbx sfl sdi sb sst sp sr nw od bs) 0 [some (.ref 129), some (.int (nI mn)), none, none, none] []
  refine j_aload_n (pc := 0) dX7_differsBy_0 rfl ?_
  refine j_v0n (pc := 1) (ci := 7) dX7_differsBy_1 mc_X7_asItIs ml_X7_176 im_X7_asItIs se_X7_asItIs rfl rfl (by apply lkE; (with_reducible first | exact lkM_129 hp | exact lkM_133 hp | exact lkM_144 hp | exact lkM_134 hp | exact lkM_130 hp | exact lkM_131 hp | exact lkM_132 hp | exact lkM_135 hp | exact lkM_136 hp | exact lkM_137 hp | exact lkM_138 hp | exact lkM_145 hp | exact lkM_146 hp | exact lkM_139 hp | exact lkM_140 hp | exact lkM_141 hp | exact lkM_142 hp | exact lkM_143 hp); rfl) (by omega) (m_asItIs hp) (Nat.le_of_ble_eq_true rfl) ?_
  refine j_iconst (pc := 4) dX7_differsBy_4 kc_0 ?_
  refine j_istore_n (pc := 5) dX7_differsBy_5 rfl (Nat.le_of_ble_eq_true rfl) rfl ?_
  refine j_iconst (pc := 6) dX7_differsBy_6 kc_0 ?_
  refine j_istore_n (pc := 7) dX7_differsBy_7 rfl (Nat.le_of_ble_eq_true rfl) rfl ?_
  exact ml_differs hp hmn ho hde hne mn 0 0 st (by omega) ⟨rfl, rfl⟩

theorem bs_congr {f2 : Fn} (he : ∀ i, i < 6 → bs i = f2 i) : (W2 pre de we da bo be sg pi ru st wa kn im ik tm to tr tx tn cu sa tk nu wr it sd swt sdd sbx sfl sdi sb sst sp sr nw od bs) = (W2 pre de we da bo be sg pi ru st wa kn im ik tm to tr tx tn cu sa tk nu wr it sd swt sdd sbx sfl sdi sb sst sp sr nw od (f2)) := by
  unfold W2 HM ia
  rw [iv_congr he]
set_option maxRecDepth 20000 in
set_option maxHeartbeats 200000 in
theorem ml_best (hp : pre.length = 129) {k set le nu0 : Int32} {mn : Nat} {s0 : Option Value} : ∀ (m i : Nat) (bs : Fn), i + m = 6 → (∀ l, l < i → bs l = od l) → J g mX7_order 6 0 0 Q (W2 pre de we da bo be sg pi ru st wa kn im ik tm to tr tx tn cu sa tk nu wr it sd swt sdd sbx sfl sdi sb sst sp sr nw od (od)) 111 [some (.ref 129), some (.int k), some (.int set), some (.int (nI mn)), some (.int le), some (.int nu0), none, none] [] → J g mX7_order 6 0 0 Q (W2 pre de we da bo be sg pi ru st wa kn im ik tm to tr tx tn cu sa tk nu wr it sd swt sdd sbx sfl sdi sb sst sp sr nw od bs) 84 [some (.ref 129), some (.int k), some (.int set), some (.int (nI mn)), some (.int le), some (.int nu0), none, some (.int (nI i))] [] := by
  intro m
  induction m with
  | zero =>
    intro i bs hk hb hq
    refine j_iload (pc := 84) dX7_order_84 rfl ?_
    refine j_bipush (pc := 86) dX7_order_86 kb_6 ?_
    refine j_icmp_ge (pc := 88) (tgt := 111) dX7_order_88 rfl (fun _ => ?_) (fun zc88 => absurd (nI_le (a := 6) (b := i) (by omega) (by omega)) zc88)
    rw [bs_congr (f2 := od) (fun l hl => hb l (by omega))]
    exact j_weak (ls' := [some _, some _, some _, some _, some _, some _, none, none]) ⟨rfl, rfl, rfl, rfl, rfl, rfl, trivial⟩ hq
  | succ m ih =>
    intro i bs hk hb hq
    refine j_iload (pc := 84) dX7_order_84 rfl ?_
    refine j_bipush (pc := 86) dX7_order_86 kb_6 ?_
    refine j_icmp_ge (pc := 88) (tgt := 111) dX7_order_88 rfl (fun zc88 => absurd zc88 (nI_ge (a := i) (b := 6) (by omega) (by omega))) (fun _ => ?_)
    refine j_aload_n (pc := 91) dX7_order_91 rfl ?_
    refine j_getf (pc := 92) dX7_order_92 fl_X7_66 (by apply lkE; (with_reducible first | exact lkM_129 hp | exact lkM_133 hp | exact lkM_144 hp | exact lkM_134 hp | exact lkM_130 hp | exact lkM_131 hp | exact lkM_132 hp | exact lkM_135 hp | exact lkM_136 hp | exact lkM_137 hp | exact lkM_138 hp | exact lkM_145 hp | exact lkM_146 hp | exact lkM_139 hp | exact lkM_140 hp | exact lkM_141 hp | exact lkM_142 hp | exact lkM_143 hp); rfl) rfl ?_
    refine j_iload (pc := 95) dX7_order_95 rfl ?_
    refine j_aload_n (pc := 97) dX7_order_97 rfl ?_
    refine j_getf (pc := 98) dX7_order_98 fl_X7_63 (by apply lkE; (with_reducible first | exact lkM_129 hp | exact lkM_133 hp | exact lkM_144 hp | exact lkM_134 hp | exact lkM_130 hp | exact lkM_131 hp | exact lkM_132 hp | exact lkM_135 hp | exact lkM_136 hp | exact lkM_137 hp | exact lkM_138 hp | exact lkM_145 hp | exact lkM_146 hp | exact lkM_139 hp | exact lkM_140 hp | exact lkM_141 hp | exact lkM_142 hp | exact lkM_143 hp); rfl) rfl ?_
    refine j_iload (pc := 101) dX7_order_101 rfl ?_
    refine j_ialdE (pc := 103) dX7_order_103 (by apply lkE; (with_reducible first | exact lkM_129 hp | exact lkM_133 hp | exact lkM_144 hp | exact lkM_134 hp | exact lkM_130 hp | exact lkM_131 hp | exact lkM_132 hp | exact lkM_135 hp | exact lkM_136 hp | exact lkM_137 hp | exact lkM_138 hp | exact lkM_145 hp | exact lkM_146 hp | exact lkM_139 hp | exact lkM_140 hp | exact lkM_141 hp | exact lkM_142 hp | exact lkM_143 hp); rfl) rfl rfl (by omega) (by decide) ?_
    refine j_iastE (pc := 104) dX7_order_104 (by apply lkE; (with_reducible first | exact lkM_129 hp | exact lkM_133 hp | exact lkM_144 hp | exact lkM_134 hp | exact lkM_130 hp | exact lkM_131 hp | exact lkM_132 hp | exact lkM_135 hp | exact lkM_136 hp | exact lkM_137 hp | exact lkM_138 hp | exact lkM_145 hp | exact lkM_146 hp | exact lkM_139 hp | exact lkM_140 hp | exact lkM_141 hp | exact lkM_142 hp | exact lkM_143 hp); rfl) rfl (by omega) (by decide) (upM_146 hp) ?_
    refine j_iinc (pc := 105) dX7_order_105 rfl rfl (Nat.le_of_ble_eq_true rfl) rfl ?_
    refine j_goto (pc := 108) (tgt := 84) dX7_order_108 rfl ?_
    rw [nI_s]
    refine ih (i + 1) _ (by omega) (fun l hl => ?_) hq
    by_cases e : l = i
    · simp [upd, e]
    · simp [upd, e, hb l (by omega)]

set_option maxRecDepth 20000 in
set_option maxHeartbeats 200000 in
theorem ml_order (hp : pre.length = 129) {k set : Int32} {mn : Nat} (hmn : mn ≤ 6) {ne : Nat} (hde : de = nI ne) (hne : ne ≤ 6) : ∀ (m q : Nat) (le : Int32) (bs od nw : Fn), q + m = 6 ^ mn → (∀ nw2 : Fn, J g mX7_order 6 0 0 Q (W2 pre de we da bo be sg pi ru st wa kn im ik tm to tr tx tn cu sa tk nu wr it sd swt sdd sbx sfl sdi sb sst sp sr (nw2) ((iter (moStep pi we bo st ne mn set) m q (le, bs, od)).2.2) ((iter (moStep pi we bo st ne mn set) m q (le, bs, od)).2.1)) 117 [some (.ref 129), some (.int k), some (.int set), some (.int (nI mn)), some (.int (iter (moStep pi we bo st ne mn set) m q (le, bs, od)).1), some (.int (nI (6 ^ mn))), none, none] []) → J g mX7_order 6 0 0 Q (W2 pre de we da bo be sg pi ru st wa kn im ik tm to tr tx tn cu sa tk nu wr it sd swt sdd sbx sfl sdi sb sst sp sr nw od bs) 38 [some (.ref 129), some (.int k), some (.int set), some (.int (nI mn)), some (.int le), some (.int (nI q)), none, none] [] := by
  have h6 := (six_nI hmn).2
  intro m
  induction m with
  | zero =>
    intro q le bs od nw hk hq
    refine j_iload (pc := 38) dX7_order_38 rfl ?_
    refine j_iload_n (pc := 40) dX7_order_40 rfl ?_
    refine j_s1 (pc := 41) dX7_order_41 mc_X7_sixes ml_X7_208 sm_X7_sixes (by omega) (m_sixes hmn) (Nat.le_of_ble_eq_true rfl) ?_
    refine j_icmp_ge (pc := 44) (tgt := 117) dX7_order_44 rfl (fun _ => ?_) (fun zc44 => absurd (nI_le (a := 6 ^ mn) (b := q) (by omega) (by omega)) zc44)
    rw [show q = 6 ^ mn by omega]
    exact hq _
  | succ m ih =>
    intro q le bs od nw hk hq
    refine j_iload (pc := 38) dX7_order_38 rfl ?_
    refine j_iload_n (pc := 40) dX7_order_40 rfl ?_
    refine j_s1 (pc := 41) dX7_order_41 mc_X7_sixes ml_X7_208 sm_X7_sixes (by omega) (m_sixes hmn) (Nat.le_of_ble_eq_true rfl) ?_
    refine j_icmp_ge (pc := 44) (tgt := 117) dX7_order_44 rfl (fun zc44 => absurd zc44 (nI_ge (a := q) (b := 6 ^ mn) (by omega) (by omega))) (fun _ => ?_)
    refine j_aload_n (pc := 47) dX7_order_47 rfl ?_
    refine j_iload (pc := 48) dX7_order_48 rfl ?_
    refine j_iload_n (pc := 50) dX7_order_50 rfl ?_
    refine j_iload_n (pc := 51) dX7_order_51 rfl ?_
    refine j_v3 (pc := 52) (ci := 7) dX7_order_52 mc_X7_isOrder ml_X7_211 im_X7_isOrder se_X7_isOrder rfl rfl (by apply lkE; (with_reducible first | exact lkM_129 hp | exact lkM_133 hp | exact lkM_144 hp | exact lkM_134 hp | exact lkM_130 hp | exact lkM_131 hp | exact lkM_132 hp | exact lkM_135 hp | exact lkM_136 hp | exact lkM_137 hp | exact lkM_138 hp | exact lkM_145 hp | exact lkM_146 hp | exact lkM_139 hp | exact lkM_140 hp | exact lkM_141 hp | exact lkM_142 hp | exact lkM_143 hp); rfl) (by omega) (m_isOrder hp hmn (by omega)) (Nat.le_of_ble_eq_true rfl) ?_
    refine j_beq (pc := 55) (tgt := 111) dX7_order_55 rfl (fun zc55 => ?_) (fun zc55 => ?_)
    · refine j_iinc (pc := 111) dX7_order_111 rfl rfl (Nat.le_of_ble_eq_true rfl) rfl ?_
      refine j_goto (pc := 114) (tgt := 38) dX7_order_114 rfl ?_
      rw [nI_s]
      rw [show iter (moStep pi we bo st ne mn set) (m + 1) q (le, bs, od) = iter (moStep pi we bo st ne mn set) m (q + 1) (moStep pi we bo st ne mn set q (le, bs, od)) from rfl] at hq
      refine j_weak (ls' := [some _, some _, some _, some _, some _, some _, none, none]) ⟨rfl, rfl, rfl, rfl, rfl, rfl, trivial⟩ (ih (q + 1) _ _ _ _ (by omega) ?_)
      first
        | (rw [show moStep pi we bo st ne mn set q (le, bs, od) = (le, bs, (ioM set mn q od 0 true).1) from by unfold moStep moC2; rw [if_neg (show ¬ (ioM set mn q od 0 true).2 = true from by rw [zc55]; decide)]] at hq; exact hq)
        | (rw [show moStep pi we bo st ne mn set q (le, bs, od) = (le, bs, (ioM set mn q od 0 true).1) from by unfold moStep moC2; rw [if_pos zc55, if_neg zc67, if_pos zc74]] at hq; exact hq)
        | (rw [show moStep pi we bo st ne mn set q (le, bs, od) = ((dfF pi we bo st (ioM set mn q od 0 true).1 ne mn).1, (ioM set mn q od 0 true).1, (ioM set mn q od 0 true).1) from by unfold moStep moC2; rw [if_pos zc55, if_pos zc67]] at hq; exact hq)
        | (rw [show moStep pi we bo st ne mn set q (le, bs, od) = ((dfF pi we bo st (ioM set mn q od 0 true).1 ne mn).1, (ioM set mn q od 0 true).1, (ioM set mn q od 0 true).1) from by unfold moStep moC2; rw [if_pos zc55, if_neg zc67, if_neg zc74]] at hq; exact hq)
    · refine j_aload_n (pc := 58) dX7_order_58 rfl ?_
      refine j_iload_n (pc := 59) dX7_order_59 rfl ?_
      refine j_v1 (pc := 60) (ci := 7) dX7_order_60 mc_X7_differsBy ml_X7_214 im_X7_differsBy se_X7_differsBy rfl rfl (by apply lkE; (with_reducible first | exact lkM_129 hp | exact lkM_133 hp | exact lkM_144 hp | exact lkM_134 hp | exact lkM_130 hp | exact lkM_131 hp | exact lkM_132 hp | exact lkM_135 hp | exact lkM_136 hp | exact lkM_137 hp | exact lkM_138 hp | exact lkM_145 hp | exact lkM_146 hp | exact lkM_139 hp | exact lkM_140 hp | exact lkM_141 hp | exact lkM_142 hp | exact lkM_143 hp); rfl) (by omega) (m_differs hp hmn (fun k hk2 => ioM_ok mn q od 0 true k (Or.inl hk2)) hde hne) (Nat.le_of_ble_eq_true rfl) ?_
      refine j_istore (pc := 63) dX7_order_63 (Nat.le_of_ble_eq_true rfl) rfl ?_
      refine j_iload (pc := 65) dX7_order_65 rfl ?_
      refine j_if_lt (pc := 67) (tgt := 77) dX7_order_67 rfl (fun zc67 => ?_) (fun zc67 => ?_)
      · refine j_iload (pc := 77) dX7_order_77 rfl ?_
        refine j_istore (pc := 79) dX7_order_79 (Nat.le_of_ble_eq_true rfl) rfl ?_
        refine j_iconst (pc := 81) dX7_order_81 kc_0 ?_
        refine j_istore (pc := 82) dX7_order_82 (Nat.le_of_ble_eq_true rfl) rfl ?_
        refine j_weak (ls' := [some _, some _, some _, some _, some _, some _, none, some _]) ⟨rfl, rfl, rfl, rfl, rfl, rfl, rfl, trivial⟩ (ml_best hp (s0 := none) 6 0 bs rfl (fun l hl => absurd hl (Nat.not_lt_zero l)) ?_)
        refine j_iinc (pc := 111) dX7_order_111 rfl rfl (Nat.le_of_ble_eq_true rfl) rfl ?_
        refine j_goto (pc := 114) (tgt := 38) dX7_order_114 rfl ?_
        rw [nI_s]
        rw [show iter (moStep pi we bo st ne mn set) (m + 1) q (le, bs, od) = iter (moStep pi we bo st ne mn set) m (q + 1) (moStep pi we bo st ne mn set q (le, bs, od)) from rfl] at hq
        refine j_weak (ls' := [some _, some _, some _, some _, some _, some _, none, none]) ⟨rfl, rfl, rfl, rfl, rfl, rfl, trivial⟩ (ih (q + 1) _ _ _ _ (by omega) ?_)
        first
          | (rw [show moStep pi we bo st ne mn set q (le, bs, od) = (le, bs, (ioM set mn q od 0 true).1) from by unfold moStep moC2; rw [if_neg (show ¬ (ioM set mn q od 0 true).2 = true from by rw [zc55]; decide)]] at hq; exact hq)
          | (rw [show moStep pi we bo st ne mn set q (le, bs, od) = (le, bs, (ioM set mn q od 0 true).1) from by unfold moStep moC2; rw [if_pos zc55, if_neg zc67, if_pos zc74]] at hq; exact hq)
          | (rw [show moStep pi we bo st ne mn set q (le, bs, od) = ((dfF pi we bo st (ioM set mn q od 0 true).1 ne mn).1, (ioM set mn q od 0 true).1, (ioM set mn q od 0 true).1) from by unfold moStep moC2; rw [if_pos zc55, if_pos zc67]] at hq; exact hq)
          | (rw [show moStep pi we bo st ne mn set q (le, bs, od) = ((dfF pi we bo st (ioM set mn q od 0 true).1 ne mn).1, (ioM set mn q od 0 true).1, (ioM set mn q od 0 true).1) from by unfold moStep moC2; rw [if_pos zc55, if_neg zc67, if_neg zc74]] at hq; exact hq)
      · refine j_iload (pc := 70) dX7_order_70 rfl ?_
        refine j_iload (pc := 72) dX7_order_72 rfl ?_
        refine j_icmp_ge (pc := 74) (tgt := 111) dX7_order_74 rfl (fun zc74 => ?_) (fun zc74 => ?_)
        · refine j_iinc (pc := 111) dX7_order_111 rfl rfl (Nat.le_of_ble_eq_true rfl) rfl ?_
          refine j_goto (pc := 114) (tgt := 38) dX7_order_114 rfl ?_
          rw [nI_s]
          rw [show iter (moStep pi we bo st ne mn set) (m + 1) q (le, bs, od) = iter (moStep pi we bo st ne mn set) m (q + 1) (moStep pi we bo st ne mn set q (le, bs, od)) from rfl] at hq
          refine j_weak (ls' := [some _, some _, some _, some _, some _, some _, none, none]) ⟨rfl, rfl, rfl, rfl, rfl, rfl, trivial⟩ (ih (q + 1) _ _ _ _ (by omega) ?_)
          first
            | (rw [show moStep pi we bo st ne mn set q (le, bs, od) = (le, bs, (ioM set mn q od 0 true).1) from by unfold moStep moC2; rw [if_neg (show ¬ (ioM set mn q od 0 true).2 = true from by rw [zc55]; decide)]] at hq; exact hq)
            | (rw [show moStep pi we bo st ne mn set q (le, bs, od) = (le, bs, (ioM set mn q od 0 true).1) from by unfold moStep moC2; rw [if_pos zc55, if_neg zc67, if_pos zc74]] at hq; exact hq)
            | (rw [show moStep pi we bo st ne mn set q (le, bs, od) = ((dfF pi we bo st (ioM set mn q od 0 true).1 ne mn).1, (ioM set mn q od 0 true).1, (ioM set mn q od 0 true).1) from by unfold moStep moC2; rw [if_pos zc55, if_pos zc67]] at hq; exact hq)
            | (rw [show moStep pi we bo st ne mn set q (le, bs, od) = ((dfF pi we bo st (ioM set mn q od 0 true).1 ne mn).1, (ioM set mn q od 0 true).1, (ioM set mn q od 0 true).1) from by unfold moStep moC2; rw [if_pos zc55, if_neg zc67, if_neg zc74]] at hq; exact hq)
        · refine j_iload (pc := 77) dX7_order_77 rfl ?_
          refine j_istore (pc := 79) dX7_order_79 (Nat.le_of_ble_eq_true rfl) rfl ?_
          refine j_iconst (pc := 81) dX7_order_81 kc_0 ?_
          refine j_istore (pc := 82) dX7_order_82 (Nat.le_of_ble_eq_true rfl) rfl ?_
          refine j_weak (ls' := [some _, some _, some _, some _, some _, some _, none, some _]) ⟨rfl, rfl, rfl, rfl, rfl, rfl, rfl, trivial⟩ (ml_best hp (s0 := none) 6 0 bs rfl (fun l hl => absurd hl (Nat.not_lt_zero l)) ?_)
          refine j_iinc (pc := 111) dX7_order_111 rfl rfl (Nat.le_of_ble_eq_true rfl) rfl ?_
          refine j_goto (pc := 114) (tgt := 38) dX7_order_114 rfl ?_
          rw [nI_s]
          rw [show iter (moStep pi we bo st ne mn set) (m + 1) q (le, bs, od) = iter (moStep pi we bo st ne mn set) m (q + 1) (moStep pi we bo st ne mn set q (le, bs, od)) from rfl] at hq
          refine j_weak (ls' := [some _, some _, some _, some _, some _, some _, none, none]) ⟨rfl, rfl, rfl, rfl, rfl, rfl, trivial⟩ (ih (q + 1) _ _ _ _ (by omega) ?_)
          first
            | (rw [show moStep pi we bo st ne mn set q (le, bs, od) = (le, bs, (ioM set mn q od 0 true).1) from by unfold moStep moC2; rw [if_neg (show ¬ (ioM set mn q od 0 true).2 = true from by rw [zc55]; decide)]] at hq; exact hq)
            | (rw [show moStep pi we bo st ne mn set q (le, bs, od) = (le, bs, (ioM set mn q od 0 true).1) from by unfold moStep moC2; rw [if_pos zc55, if_neg zc67, if_pos zc74]] at hq; exact hq)
            | (rw [show moStep pi we bo st ne mn set q (le, bs, od) = ((dfF pi we bo st (ioM set mn q od 0 true).1 ne mn).1, (ioM set mn q od 0 true).1, (ioM set mn q od 0 true).1) from by unfold moStep moC2; rw [if_pos zc55, if_pos zc67]] at hq; exact hq)
            | (rw [show moStep pi we bo st ne mn set q (le, bs, od) = ((dfF pi we bo st (ioM set mn q od 0 true).1 ne mn).1, (ioM set mn q od 0 true).1, (ioM set mn q od 0 true).1) from by unfold moStep moC2; rw [if_pos zc55, if_neg zc67, if_neg zc74]] at hq; exact hq)

theorem nI_pos0 (j : Nat) (h : j < 2 ^ 31) : 0 ≤ nI j := by
  rw [Int32.le_iff_toInt_le, nI_toInt h]
  show (0 : Int) ≤ j
  omega
set_option maxRecDepth 20000 in
set_option maxHeartbeats 200000 in
theorem m_order (hp : pre.length = 129) {k : Int32} {n : Nat} (hdd : da = nI n) (hn : n ≤ 6) {ne : Nat} (hde : de = nI ne) (hne : ne ≤ 6) {mn : Nat} (hmn : mn ≤ 6) (hmb : mbits (moSet st n) = nI mn) (h1 : jin k (-1) 5 = false → Q (some (.int (-1))) (W2 pre de we da bo be sg pi ru st wa kn im ik tm to tr tx tn cu sa tk nu wr it sd swt sdd sbx sfl sdi sb sst sp sr nw od bs)) (h2 : ∀ nw2 od2 bs2 : Fn, k = -1 → Q (some (.int (moF pi we bo st bs od ne mn (moSet st n)).1)) (W2 pre de we da bo be sg pi ru st wa kn im ik tm to tr tx tn cu sa tk nu wr it sd swt sdd sbx sfl sdi sb sst sp sr (nw2) (od2) (bs2))) (h3 : ∀ (nw2 od2 bs2 : Fn) (j : Nat), j ≤ 5 → k = nI j → Q (some (.int (if j < mn then (moF pi we bo st bs od ne mn (moSet st n)).2.1 j else -9))) (W2 pre de we da bo be sg pi ru st wa kn im ik tm to tr tx tn cu sa tk nu wr it sd swt sdd sbx sfl sdi sb sst sp sr (nw2) (od2) (bs2))) : C g 6 0 0 mX7_order [.ref 129, .int k] (W2 pre de we da bo be sg pi ru st wa kn im ik tm to tr tx tn cu sa tk nu wr it sd swt sdd sbx sfl sdi sb sst sp sr nw od bs) Q := by
  refine C.of (by decide +kernel) (by simp [Value.category]) (Nat.le_of_ble_eq_true rfl) ?_
  change J g mX7_order 6 0 0 _ (W2 pre de we da bo be sg pi ru st wa kn im ik tm to tr tx tn cu sa tk nu wr it sd swt sdd sbx sfl sdi sb sst sp sr nw od bs) 0 [some (.ref 129), some (.int k), none, none, none, none, none, none] []
  refine j_iload_n (pc := 0) dX7_order_0 rfl ?_
  refine j_iconst (pc := 1) dX7_order_1 kc_m1 ?_
  refine j_iconst (pc := 2) dX7_order_2 kc_5 ?_
  refine j_s3 (pc := 3) dX7_order_3 mc_X7_in ml_X7_72 sm_X7_in (by omega) (c_in) (Nat.le_of_ble_eq_true rfl) ?_
  refine j_bne (pc := 6) (tgt := 11) dX7_order_6 rfl (fun zc6 => ?_) (fun zc6 => ?_)
  · refine j_iconst (pc := 11) dX7_order_11 kc_1 ?_
    refine j_aload_n (pc := 12) dX7_order_12 rfl ?_
    refine j_getf (pc := 13) dX7_order_13 fl_X7_76 (by apply lkE; (with_reducible first | exact lkM_129 hp | exact lkM_133 hp | exact lkM_144 hp | exact lkM_134 hp | exact lkM_130 hp | exact lkM_131 hp | exact lkM_132 hp | exact lkM_135 hp | exact lkM_136 hp | exact lkM_137 hp | exact lkM_138 hp | exact lkM_145 hp | exact lkM_146 hp | exact lkM_139 hp | exact lkM_140 hp | exact lkM_141 hp | exact lkM_142 hp | exact lkM_143 hp); rfl) rfl ?_
    refine j_ishl (pc := 16) dX7_order_16 ?_
    refine j_iconst (pc := 17) dX7_order_17 kc_1 ?_
    refine j_isub (pc := 18) dX7_order_18 ?_
    refine j_aload_n (pc := 19) dX7_order_19 rfl ?_
    refine j_v0 (pc := 20) (ci := 7) dX7_order_20 mc_X7_chalked ml_X7_195 im_X7_chalked se_X7_chalked rfl rfl (by apply lkE; (with_reducible first | exact lkM_129 hp | exact lkM_133 hp | exact lkM_144 hp | exact lkM_134 hp | exact lkM_130 hp | exact lkM_131 hp | exact lkM_132 hp | exact lkM_135 hp | exact lkM_136 hp | exact lkM_137 hp | exact lkM_138 hp | exact lkM_145 hp | exact lkM_146 hp | exact lkM_139 hp | exact lkM_140 hp | exact lkM_141 hp | exact lkM_142 hp | exact lkM_143 hp); rfl) (by omega) (m_chalked hp hdd hn) (Nat.le_of_ble_eq_true rfl) ?_
    refine j_iconst (pc := 23) dX7_order_23 kc_m1 ?_
    refine j_ixor (pc := 24) dX7_order_24 ?_
    refine j_iand (pc := 25) dX7_order_25 ?_
    rw [hdd]
    change J g mX7_order 6 0 0 Q _ 26 _ [.int (moSet st n)]
    rw [← hdd]
    refine j_istore_n (pc := 26) dX7_order_26 rfl (Nat.le_of_ble_eq_true rfl) rfl ?_
    refine j_iload_n (pc := 27) dX7_order_27 rfl ?_
    refine j_s1 (pc := 28) dX7_order_28 mc_X7_bits ml_X7_202 sm_X7_bits (by omega) (m_bits) (Nat.le_of_ble_eq_true rfl) ?_
    rw [hmb]
    refine j_istore_n (pc := 31) dX7_order_31 rfl (Nat.le_of_ble_eq_true rfl) rfl ?_
    refine j_iconst (pc := 32) dX7_order_32 kc_m1 ?_
    refine j_istore (pc := 33) dX7_order_33 (Nat.le_of_ble_eq_true rfl) rfl ?_
    refine j_iconst (pc := 35) dX7_order_35 kc_0 ?_
    refine j_istore (pc := 36) dX7_order_36 (Nat.le_of_ble_eq_true rfl) rfl ?_
    refine ml_order hp hmn hde hne (6 ^ mn) 0 (-1) bs od nw (by omega) ?_
    intro nw2
    rcases jin_k zc6 with zk | ⟨j, hj, zk⟩
    · refine j_iload_n (pc := 117) dX7_order_117 rfl ?_
      refine j_if_ge (pc := 118) (tgt := 126) dX7_order_118 rfl (fun zc118 => absurd zc118 (show ¬ 0 ≤ k from by rw [zk]; decide)) (fun _ => ?_)
      refine j_iload (pc := 121) dX7_order_121 rfl ?_
      refine j_goto (pc := 123) (tgt := 142) dX7_order_123 rfl ?_
      refine j_ireturn (pc := 142) dX7_order_142 rfl ?_
      exact h2 _ _ _ zk
    · refine j_iload_n (pc := 117) dX7_order_117 rfl ?_
      refine j_if_ge (pc := 118) (tgt := 126) dX7_order_118 rfl (fun _ => ?_) (fun zc118 => absurd (show 0 ≤ k from by rw [zk]; exact nI_pos0 j (by omega)) zc118)
      refine j_iload_n (pc := 126) dX7_order_126 rfl ?_
      refine j_iload_n (pc := 127) dX7_order_127 rfl ?_
      refine j_icmp_ge (pc := 128) (tgt := 140) dX7_order_128 rfl (fun zc128 => ?_) (fun zc128 => ?_)
      · have hjm : ¬ j < mn := fun e => by
          rw [zk] at zc128
          have := Int32.le_iff_toInt_le.mp zc128
          rw [nI_toInt (by omega), nI_toInt (by omega)] at this
          omega
        refine j_bipush (pc := 140) dX7_order_140 kb_m9 ?_
        refine j_ireturn (pc := 142) dX7_order_142 rfl ?_
        have z := h3 nw2 (moF pi we bo st bs od ne mn (moSet st n)).2.2 (moF pi we bo st bs od ne mn (moSet st n)).2.1 j hj zk
        first
          | (rw [if_pos hjm] at z; exact z)
          | (rw [if_neg hjm] at z; exact z)
      · have hjm : j < mn := by
          by_cases e : j < mn
          · exact e
          · exact absurd (by rw [zk]; exact nI_le (by omega) (by omega)) zc128
        refine j_aload_n (pc := 131) dX7_order_131 rfl ?_
        refine j_getf (pc := 132) dX7_order_132 fl_X7_66 (by apply lkE; (with_reducible first | exact lkM_129 hp | exact lkM_133 hp | exact lkM_144 hp | exact lkM_134 hp | exact lkM_130 hp | exact lkM_131 hp | exact lkM_132 hp | exact lkM_135 hp | exact lkM_136 hp | exact lkM_137 hp | exact lkM_138 hp | exact lkM_145 hp | exact lkM_146 hp | exact lkM_139 hp | exact lkM_140 hp | exact lkM_141 hp | exact lkM_142 hp | exact lkM_143 hp); rfl) rfl ?_
        refine j_iload_n (pc := 135) dX7_order_135 rfl ?_
        refine j_ialdE (pc := 136) dX7_order_136 (by apply lkE; (with_reducible first | exact lkM_129 hp | exact lkM_133 hp | exact lkM_144 hp | exact lkM_134 hp | exact lkM_130 hp | exact lkM_131 hp | exact lkM_132 hp | exact lkM_135 hp | exact lkM_136 hp | exact lkM_137 hp | exact lkM_138 hp | exact lkM_145 hp | exact lkM_146 hp | exact lkM_139 hp | exact lkM_140 hp | exact lkM_141 hp | exact lkM_142 hp | exact lkM_143 hp); rfl) rfl zk (by omega) (by decide) ?_
        refine j_goto (pc := 137) (tgt := 142) dX7_order_137 rfl ?_
        refine j_ireturn (pc := 142) dX7_order_142 rfl ?_
        have z := h3 nw2 (moF pi we bo st bs od ne mn (moSet st n)).2.2 (moF pi we bo st bs od ne mn (moSet st n)).2.1 j hj zk
        first
          | (rw [if_pos hjm] at z; exact z)
          | (rw [if_neg hjm] at z; exact z)
  · refine j_iconst (pc := 9) dX7_order_9 kc_m1 ?_
    refine j_ireturn (pc := 10) dX7_order_10 rfl ?_
    exact h1 zc6

end

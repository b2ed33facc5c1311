/-! the reference's reader: the items of a text -/
section
variable {g : GG} {h : List AC} {Q : Option Value → List AC → Prop} {pre : List AC} {de : Int32} {we : Fn} {da : Int32} {bo : Fn} {be : Int32} {sg : Fn} {pi : Int32} {ru : Int32} {st : Fn} {wa : Fn} {kn : Int32} {im : Fn} {ik : Nat → Bool} {tm : Int32} {to : Fn} {tr : Int64} {tx : Fn} {tn : Int32} {cu : Int32} {sa : Int32} {tk : Int32} {nu : Int32} {wr : Bool} {it : Int32} {sd : Int32} {swt : Fn} {sdd : Int32} {sbx : Fn} {sfl : Fn} {sdi : Fn} {sb : Int32} {sst : Fn} {sp : Int32} {sr : Int32} {nw : Fn} {od : Fn} {bs : Fn}
/-- what is said: deeds, weights, dead, boxes, flowers, deeds done, bearers, strengths, pin, rust -/
abbrev SD : Type := Nat × Fn × Nat × Fn × Fn × Fn × Nat × Fn × Int32 × Int32
def dOk (D : SD) : Prop := D.1 ≤ 6 ∧ D.2.2.1 ≤ 6 ∧ D.2.2.2.2.2.2.1 ≤ 6
def mbD (c : Int32) (D : SD) : Bool := mbM c (nI D.1) (nI D.2.2.1) (nI D.2.2.2.2.2.2.1) D.2.2.2.2.2.2.2.2.1 D.2.2.2.2.2.2.2.2.2
def itB (tx : Fn) (L : Nat) (s : MSt) (D : SD) : MSt × SD := (closeM tx L (tnS tx L 1 60 (nextM tx L s)), (D.1, D.2.1, D.2.2.1, D.2.2.2.1, D.2.2.2.2.1, D.2.2.2.2.2.1, D.2.2.2.2.2.2.1 + 1, upd D.2.2.2.2.2.2.2.1 D.2.2.2.2.2.2.1 (tnV 1 60 (nextM tx L s)), D.2.2.2.2.2.2.2.2.1, D.2.2.2.2.2.2.2.2.2))
def itD (tx : Fn) (L : Nat) (s : MSt) (D : SD) : MSt × SD := (closeM tx L (tnS tx L 0 40 (nextM tx L s)), (D.1 + 1, upd D.2.1 D.1 (tnV 0 40 (nextM tx L s) - 20), D.2.2.1, D.2.2.2.1, D.2.2.2.2.1, D.2.2.2.2.2.1, D.2.2.2.2.2.2.1, D.2.2.2.2.2.2.2.1, D.2.2.2.2.2.2.2.2.1, D.2.2.2.2.2.2.2.2.2))
def rdD (tx : Fn) (L : Nat) (s : MSt) (D : SD) : Int32 × MSt := rdM tx L (nI D.1 - 1) 151 0 (tnS tx L 0 9 (tnS tx L 1 40 (nextM tx L s)))
def itL (tx : Fn) (L : Nat) (s : MSt) (D : SD) : MSt × SD := (closeM tx L (rdD tx L s D).2, (D.1, D.2.1, D.2.2.1 + 1, upd D.2.2.2.1 D.2.2.1 (tnV 1 40 (nextM tx L s)), upd D.2.2.2.2.1 D.2.2.1 (tnV 0 9 (tnS tx L 1 40 (nextM tx L s))), upd D.2.2.2.2.2.1 D.2.2.1 (rdD tx L s D).1, D.2.2.2.2.2.2.1, D.2.2.2.2.2.2.2.1, D.2.2.2.2.2.2.2.2.1, D.2.2.2.2.2.2.2.2.2))
def itP (tx : Fn) (L : Nat) (s : MSt) (D : SD) : MSt × SD := (closeM tx L (tnS tx L 10 99 (nextM tx L s)), (D.1, D.2.1, D.2.2.1, D.2.2.2.1, D.2.2.2.2.1, D.2.2.2.2.2.1, D.2.2.2.2.2.2.1, D.2.2.2.2.2.2.2.1, tnV 10 99 (nextM tx L s), D.2.2.2.2.2.2.2.2.2))
def itR2 (tx : Fn) (L : Nat) (s : MSt) (D : SD) : MSt × SD := (closeM tx L (tnS tx L 0 9 (nextM tx L s)), (D.1, D.2.1, D.2.2.1, D.2.2.2.1, D.2.2.2.2.1, D.2.2.2.2.2.1, D.2.2.2.2.2.2.1, D.2.2.2.2.2.2.2.1, D.2.2.2.2.2.2.2.2.1, tnV 0 9 (nextM tx L s)))
def itM (tx : Fn) (L : Nat) (s : MSt) (D : SD) : MSt × SD :=
  if s.2.2.1 = 1 ∧ mbD s.2.2.2.1 D = true then
    (if s.2.2.2.1 = 98 then itB tx L s D else if s.2.2.2.1 = 100 then itD tx L s D else if s.2.2.2.1 = 108 then itL tx L s D else if s.2.2.2.1 = 112 then itP tx L s D else itR2 tx L s D)
  else (wrM s, D)
theorem le6_lt {n : Nat} (h : n ≤ 6) (q : (!decide (6 ≤ nI n)) = true) : n < 6 := by
  by_cases e : n = 6
  · subst e
    exact absurd q (by decide)
  · omega
theorem mbD_98 {D : SD} (hd : dOk D) (h : mbD 98 D = true) : D.2.2.2.2.2.2.1 < 6 := le6_lt hd.2.2 h
theorem mbD_100 {D : SD} (hd : dOk D) (h : mbD 100 D = true) : D.1 < 6 := le6_lt hd.1 h
theorem mbD_108 {D : SD} (hd : dOk D) (h : mbD 108 D = true) : D.2.2.1 < 6 := le6_lt hd.2.1 h
theorem closeM_step {tx : Fn} {L : Nat} {s : MSt} (h : s.1 ≤ L) : (closeM tx L s).1 ≤ L ∧ s.1 ≤ (closeM tx L s).1 ∧ (¬ (closeM tx L s).2.2.1 = 0 → (closeM tx L s).2.2.2.2 = false → s.1 < (closeM tx L s).1) := by
  have h1 := nextM_ok (tx := tx) h
  unfold closeM
  split
  · exact ⟨h1.1, h1.2.2.1, fun q _ => h1.2.2.2 q⟩
  · exact ⟨h, Nat.le_refl _, fun _ q => absurd (show true = false from q) (by decide)⟩
theorem close_chain {tx : Fn} {L a : Nat} {s : MSt} (h : s.1 ≤ L) (h2 : a ≤ s.1) : (closeM tx L s).1 ≤ L ∧ (¬ (closeM tx L s).2.2.1 = 0 → (closeM tx L s).2.2.2.2 = false → a < (closeM tx L s).1) := by
  have z := closeM_step (tx := tx) h
  exact ⟨z.1, fun q1 q2 => Nat.lt_of_le_of_lt h2 (z.2.2 q1 q2)⟩
theorem tn_chain {tx : Fn} {L a : Nat} {lo hi : Int32} {s : MSt} (h : s.1 ≤ L) (h2 : a ≤ s.1) : (tnS tx L lo hi s).1 ≤ L ∧ a ≤ (tnS tx L lo hi s).1 := by
  have z := tnS_step (tx := tx) (lo := lo) (hi := hi) h
  exact ⟨z.1, Nat.le_trans h2 z.2.1⟩
theorem nx_chain {tx : Fn} {L : Nat} {s : MSt} (h : s.1 ≤ L) : (nextM tx L s).1 ≤ L ∧ s.1 ≤ (nextM tx L s).1 := ⟨(nextM_ok h).1, (nextM_ok h).2.2.1⟩
theorem rdD_chain {tx : Fn} {L : Nat} {s : MSt} {D : SD} (h : s.1 ≤ L) : (rdD tx L s D).2.1 ≤ L ∧ s.1 ≤ (rdD tx L s D).2.1 := by
  have z1 := nx_chain (tx := tx) h
  have z2 := tn_chain (tx := tx) (lo := 1) (hi := 40) z1.1 z1.2
  have z3 := tn_chain (tx := tx) (lo := 0) (hi := 9) z2.1 z2.2
  have z4 := rdM_ok (tx := tx) (hi := nI D.1 - 1) 151 0 _ z3.1
  exact ⟨z4.1, Nat.le_trans z3.2 z4.2⟩
theorem itM_step {tx : Fn} {L : Nat} {s : MSt} {D : SD} (h : s.1 ≤ L) : (itM tx L s D).1.1 ≤ L ∧ (¬ (itM tx L s D).1.2.2.1 = 0 → (itM tx L s D).1.2.2.2.2 = false → s.1 < (itM tx L s D).1.1) := by
  have z1 := nx_chain (tx := tx) h
  have zt : ∀ lo hi : Int32, (tnS tx L lo hi (nextM tx L s)).1 ≤ L ∧ s.1 ≤ (tnS tx L lo hi (nextM tx L s)).1 := fun lo hi => tn_chain z1.1 z1.2
  have zr := rdD_chain (tx := tx) (D := D) h
  unfold itM
  split
  · split
    · exact close_chain (zt 1 60).1 (zt 1 60).2
    · split
      · exact close_chain (zt 0 40).1 (zt 0 40).2
      · split
        · exact close_chain zr.1 zr.2
        · split
          · exact close_chain (zt 10 99).1 (zt 10 99).2
          · exact close_chain (zt 0 9).1 (zt 0 9).2
  · exact ⟨h, fun _ q => absurd (show true = false from q) (by decide)⟩
theorem itM_ok {tx : Fn} {L : Nat} {s : MSt} {D : SD} (hd : dOk D) : dOk (itM tx L s D).2 := by
  unfold itM
  split
  · rename_i h
    split
    · rename_i h2
      rw [h2] at h
      exact ⟨hd.1, hd.2.1, mbD_98 hd h.2⟩
    · split
      · rename_i h2
        rw [h2] at h
        exact ⟨mbD_100 hd h.2, hd.2.1, hd.2.2⟩
      · split
        · rename_i h2
          rw [h2] at h
          exact ⟨hd.1, mbD_108 hd h.2, hd.2.2⟩
        · split
          · exact hd
          · exact hd
  · exact hd
set_option maxRecDepth 20000 in
set_option maxHeartbeats 200000 in
theorem m_body98 (hp : pre.length = 129) {L : Nat} (htn : tn = nI L) (hL : L ≤ 150) (hx : ∀ k, k < L → 0 ≤ tx k) {s : MSt} (hs : s.1 ≤ L) {k : Nat} (hk : k < 6) : CD g 5 mX7_readBody [.ref 129, .int 98] (W2 pre de we da bo be sg pi ru st wa kn im ik tm to tr tx tn (nI (s).1) (nI (s).2.1) ((s).2.2.1) ((s).2.2.2.1) ((s).2.2.2.2) it sd swt sdd sbx sfl sdi (nI k) sst sp sr nw od bs) none (W2 pre de we da bo be sg pi ru st wa kn im ik tm to tr tx tn (nI (tnS tx L 1 60 s).1) (nI (tnS tx L 1 60 s).2.1) ((tnS tx L 1 60 s).2.2.1) ((tnS tx L 1 60 s).2.2.2.1) ((tnS tx L 1 60 s).2.2.2.2) it sd swt sdd sbx sfl sdi (nI (k + 1)) (upd sst k (tnV 1 60 s)) sp sr nw od bs) := by
  refine C.of (by decide +kernel) (by simp [Value.category]) (Nat.le_of_ble_eq_true rfl) ?_
  change J g mX7_readBody 5 0 0 _ (W2 pre de we da bo be sg pi ru st wa kn im ik tm to tr tx tn (nI (s).1) (nI (s).2.1) ((s).2.2.1) ((s).2.2.2.1) ((s).2.2.2.2) it sd swt sdd sbx sfl sdi (nI k) sst sp sr nw od bs) 0 [some (.ref 129), some (.int 98)] []
  refine j_iload_n (pc := 0) dX7_readBody_0 rfl ?_
  refine j_lookup (pc := 1) (off := 82) (tgt := 83) dX7_readBody_1 (by decide) (by decide) rfl ?_
  refine j_aload_n (pc := 83) dX7_readBody_83 rfl ?_
  refine j_getf (pc := 84) dX7_readBody_84 fl_X7_57 (by apply lkE; (with_reducible first | exact lkM_129 hp | exact lkM_133 hp | exact lkM_144 hp | exact lkM_134 hp | exact lkM_130 hp | exact lkM_131 hp | exact lkM_132 hp | exact lkM_135 hp | exact lkM_136 hp | exact lkM_137 hp | exact lkM_138 hp | exact lkM_145 hp | exact lkM_146 hp | exact lkM_139 hp | exact lkM_140 hp | exact lkM_141 hp | exact lkM_142 hp | exact lkM_143 hp); rfl) rfl ?_
  refine j_aload_n (pc := 87) dX7_readBody_87 rfl ?_
  refine j_getf (pc := 88) dX7_readBody_88 fl_X7_123 (by apply lkE; (with_reducible first | exact lkM_129 hp | exact lkM_133 hp | exact lkM_144 hp | exact lkM_134 hp | exact lkM_130 hp | exact lkM_131 hp | exact lkM_132 hp | exact lkM_135 hp | exact lkM_136 hp | exact lkM_137 hp | exact lkM_138 hp | exact lkM_145 hp | exact lkM_146 hp | exact lkM_139 hp | exact lkM_140 hp | exact lkM_141 hp | exact lkM_142 hp | exact lkM_143 hp); rfl) rfl ?_
  refine j_aload_n (pc := 91) dX7_readBody_91 rfl ?_
  refine j_iconst (pc := 92) dX7_readBody_92 kc_1 ?_
  refine j_bipush (pc := 93) dX7_readBody_93 kb_60 ?_
  refine j_v2 (pc := 95) (ci := 7) dX7_readBody_95 mc_X7_takesNumber ml_X7_112 im_X7_takesNumber se_X7_takesNumber rfl rfl (by apply lkE; (with_reducible first | exact lkM_129 hp | exact lkM_133 hp | exact lkM_144 hp | exact lkM_134 hp | exact lkM_130 hp | exact lkM_131 hp | exact lkM_132 hp | exact lkM_135 hp | exact lkM_136 hp | exact lkM_137 hp | exact lkM_138 hp | exact lkM_145 hp | exact lkM_146 hp | exact lkM_139 hp | exact lkM_140 hp | exact lkM_141 hp | exact lkM_142 hp | exact lkM_143 hp); rfl) (by omega) (m_takes0 hp htn hL hx (c := s.1) (a := s.2.1) (tk := s.2.2.1) (nu := s.2.2.2.1) (w := s.2.2.2.2) hs) (Nat.le_of_ble_eq_true rfl) ?_
  refine j_iastE (pc := 98) dX7_readBody_98 (by apply lkE; (with_reducible first | exact lkM_129 hp | exact lkM_133 hp | exact lkM_144 hp | exact lkM_134 hp | exact lkM_130 hp | exact lkM_131 hp | exact lkM_132 hp | exact lkM_135 hp | exact lkM_136 hp | exact lkM_137 hp | exact lkM_138 hp | exact lkM_145 hp | exact lkM_146 hp | exact lkM_139 hp | exact lkM_140 hp | exact lkM_141 hp | exact lkM_142 hp | exact lkM_143 hp); rfl) rfl (by omega) (by decide) (upM_143 hp) ?_
  refine j_aload_n (pc := 99) dX7_readBody_99 rfl ?_
  refine j_dup (pc := 100) dX7_readBody_100 rfl ?_
  refine j_getf (pc := 101) dX7_readBody_101 fl_X7_123 (by apply lkE; (with_reducible first | exact lkM_129 hp | exact lkM_133 hp | exact lkM_144 hp | exact lkM_134 hp | exact lkM_130 hp | exact lkM_131 hp | exact lkM_132 hp | exact lkM_135 hp | exact lkM_136 hp | exact lkM_137 hp | exact lkM_138 hp | exact lkM_145 hp | exact lkM_146 hp | exact lkM_139 hp | exact lkM_140 hp | exact lkM_141 hp | exact lkM_142 hp | exact lkM_143 hp); rfl) rfl ?_
  refine j_iconst (pc := 104) dX7_readBody_104 kc_1 ?_
  refine j_iadd (pc := 105) dX7_readBody_105 ?_
  rw [nI_s1]
  refine j_putf (pc := 106) dX7_readBody_106 fl_X7_123 (jfit_i _) (by apply lkE; (with_reducible first | exact lkM_129 hp | exact lkM_133 hp | exact lkM_144 hp | exact lkM_134 hp | exact lkM_130 hp | exact lkM_131 hp | exact lkM_132 hp | exact lkM_135 hp | exact lkM_136 hp | exact lkM_137 hp | exact lkM_138 hp | exact lkM_145 hp | exact lkM_146 hp | exact lkM_139 hp | exact lkM_140 hp | exact lkM_141 hp | exact lkM_142 hp | exact lkM_143 hp); rfl) (upM_129 hp) ?_
  refine j_goto (pc := 109) (tgt := 138) dX7_readBody_109 rfl ?_
  refine j_return (pc := 138) dX7_readBody_138 rfl ?_
  exact ⟨rfl, rfl⟩

set_option maxRecDepth 20000 in
set_option maxHeartbeats 200000 in
theorem m_body100 (hp : pre.length = 129) {L : Nat} (htn : tn = nI L) (hL : L ≤ 150) (hx : ∀ k, k < L → 0 ≤ tx k) {s : MSt} (hs : s.1 ≤ L) {k : Nat} (hk : k < 6) : CD g 5 mX7_readBody [.ref 129, .int 100] (W2 pre de we da bo be sg pi ru st wa kn im ik tm to tr tx tn (nI (s).1) (nI (s).2.1) ((s).2.2.1) ((s).2.2.2.1) ((s).2.2.2.2) it (nI k) swt sdd sbx sfl sdi sb sst sp sr nw od bs) none (W2 pre de we da bo be sg pi ru st wa kn im ik tm to tr tx tn (nI (tnS tx L 0 40 s).1) (nI (tnS tx L 0 40 s).2.1) ((tnS tx L 0 40 s).2.2.1) ((tnS tx L 0 40 s).2.2.2.1) ((tnS tx L 0 40 s).2.2.2.2) it (nI (k + 1)) (upd swt k (tnV 0 40 s - 20)) sdd sbx sfl sdi sb sst sp sr nw od bs) := by
  refine C.of (by decide +kernel) (by simp [Value.category]) (Nat.le_of_ble_eq_true rfl) ?_
  change J g mX7_readBody 5 0 0 _ (W2 pre de we da bo be sg pi ru st wa kn im ik tm to tr tx tn (nI (s).1) (nI (s).2.1) ((s).2.2.1) ((s).2.2.2.1) ((s).2.2.2.2) it (nI k) swt sdd sbx sfl sdi sb sst sp sr nw od bs) 0 [some (.ref 129), some (.int 100)] []
  refine j_iload_n (pc := 0) dX7_readBody_0 rfl ?_
  refine j_lookup (pc := 1) (off := 43) (tgt := 44) dX7_readBody_1 (by decide) (by decide) rfl ?_
  refine j_aload_n (pc := 44) dX7_readBody_44 rfl ?_
  refine j_getf (pc := 45) dX7_readBody_45 fl_X7_45 (by apply lkE; (with_reducible first | exact lkM_129 hp | exact lkM_133 hp | exact lkM_144 hp | exact lkM_134 hp | exact lkM_130 hp | exact lkM_131 hp | exact lkM_132 hp | exact lkM_135 hp | exact lkM_136 hp | exact lkM_137 hp | exact lkM_138 hp | exact lkM_145 hp | exact lkM_146 hp | exact lkM_139 hp | exact lkM_140 hp | exact lkM_141 hp | exact lkM_142 hp | exact lkM_143 hp); rfl) rfl ?_
  refine j_aload_n (pc := 48) dX7_readBody_48 rfl ?_
  refine j_getf (pc := 49) dX7_readBody_49 fl_X7_116 (by apply lkE; (with_reducible first | exact lkM_129 hp | exact lkM_133 hp | exact lkM_144 hp | exact lkM_134 hp | exact lkM_130 hp | exact lkM_131 hp | exact lkM_132 hp | exact lkM_135 hp | exact lkM_136 hp | exact lkM_137 hp | exact lkM_138 hp | exact lkM_145 hp | exact lkM_146 hp | exact lkM_139 hp | exact lkM_140 hp | exact lkM_141 hp | exact lkM_142 hp | exact lkM_143 hp); rfl) rfl ?_
  refine j_aload_n (pc := 52) dX7_readBody_52 rfl ?_
  refine j_iconst (pc := 53) dX7_readBody_53 kc_0 ?_
  refine j_bipush (pc := 54) dX7_readBody_54 kb_40 ?_
  refine j_v2 (pc := 56) (ci := 7) dX7_readBody_56 mc_X7_takesNumber ml_X7_112 im_X7_takesNumber se_X7_takesNumber rfl rfl (by apply lkE; (with_reducible first | exact lkM_129 hp | exact lkM_133 hp | exact lkM_144 hp | exact lkM_134 hp | exact lkM_130 hp | exact lkM_131 hp | exact lkM_132 hp | exact lkM_135 hp | exact lkM_136 hp | exact lkM_137 hp | exact lkM_138 hp | exact lkM_145 hp | exact lkM_146 hp | exact lkM_139 hp | exact lkM_140 hp | exact lkM_141 hp | exact lkM_142 hp | exact lkM_143 hp); rfl) (by omega) (m_takes0 hp htn hL hx (c := s.1) (a := s.2.1) (tk := s.2.2.1) (nu := s.2.2.2.1) (w := s.2.2.2.2) hs) (Nat.le_of_ble_eq_true rfl) ?_
  refine j_bipush (pc := 59) dX7_readBody_59 kb_20 ?_
  refine j_isub (pc := 61) dX7_readBody_61 ?_
  refine j_iastE (pc := 62) dX7_readBody_62 (by apply lkE; (with_reducible first | exact lkM_129 hp | exact lkM_133 hp | exact lkM_144 hp | exact lkM_134 hp | exact lkM_130 hp | exact lkM_131 hp | exact lkM_132 hp | exact lkM_135 hp | exact lkM_136 hp | exact lkM_137 hp | exact lkM_138 hp | exact lkM_145 hp | exact lkM_146 hp | exact lkM_139 hp | exact lkM_140 hp | exact lkM_141 hp | exact lkM_142 hp | exact lkM_143 hp); rfl) rfl (by omega) (by decide) (upM_139 hp) ?_
  refine j_aload_n (pc := 63) dX7_readBody_63 rfl ?_
  refine j_dup (pc := 64) dX7_readBody_64 rfl ?_
  refine j_getf (pc := 65) dX7_readBody_65 fl_X7_116 (by apply lkE; (with_reducible first | exact lkM_129 hp | exact lkM_133 hp | exact lkM_144 hp | exact lkM_134 hp | exact lkM_130 hp | exact lkM_131 hp | exact lkM_132 hp | exact lkM_135 hp | exact lkM_136 hp | exact lkM_137 hp | exact lkM_138 hp | exact lkM_145 hp | exact lkM_146 hp | exact lkM_139 hp | exact lkM_140 hp | exact lkM_141 hp | exact lkM_142 hp | exact lkM_143 hp); rfl) rfl ?_
  refine j_iconst (pc := 68) dX7_readBody_68 kc_1 ?_
  refine j_iadd (pc := 69) dX7_readBody_69 ?_
  rw [nI_s1]
  refine j_putf (pc := 70) dX7_readBody_70 fl_X7_116 (jfit_i _) (by apply lkE; (with_reducible first | exact lkM_129 hp | exact lkM_133 hp | exact lkM_144 hp | exact lkM_134 hp | exact lkM_130 hp | exact lkM_131 hp | exact lkM_132 hp | exact lkM_135 hp | exact lkM_136 hp | exact lkM_137 hp | exact lkM_138 hp | exact lkM_145 hp | exact lkM_146 hp | exact lkM_139 hp | exact lkM_140 hp | exact lkM_141 hp | exact lkM_142 hp | exact lkM_143 hp); rfl) (upM_129 hp) ?_
  refine j_goto (pc := 73) (tgt := 138) dX7_readBody_73 rfl ?_
  refine j_return (pc := 138) dX7_readBody_138 rfl ?_
  exact ⟨rfl, rfl⟩

set_option maxRecDepth 20000 in
set_option maxHeartbeats 200000 in
theorem m_body108 (hp : pre.length = 129) {L : Nat} (htn : tn = nI L) (hL : L ≤ 150) (hx : ∀ k, k < L → 0 ≤ tx k) {s : MSt} (hs : s.1 ≤ L) {k : Nat} (hk : k < 6) : CD g 5 mX7_readBody [.ref 129, .int 108] (W2 pre de we da bo be sg pi ru st wa kn im ik tm to tr tx tn (nI (s).1) (nI (s).2.1) ((s).2.2.1) ((s).2.2.2.1) ((s).2.2.2.2) it sd swt (nI k) sbx sfl sdi sb sst sp sr nw od bs) none (W2 pre de we da bo be sg pi ru st wa kn im ik tm to tr tx tn (nI ((rdM tx L (sd - 1) 151 0 (tnS tx L 0 9 (tnS tx L 1 40 s))).2).1) (nI ((rdM tx L (sd - 1) 151 0 (tnS tx L 0 9 (tnS tx L 1 40 s))).2).2.1) (((rdM tx L (sd - 1) 151 0 (tnS tx L 0 9 (tnS tx L 1 40 s))).2).2.2.1) (((rdM tx L (sd - 1) 151 0 (tnS tx L 0 9 (tnS tx L 1 40 s))).2).2.2.2.1) (((rdM tx L (sd - 1) 151 0 (tnS tx L 0 9 (tnS tx L 1 40 s))).2).2.2.2.2) it sd swt (nI (k + 1)) (upd sbx k (tnV 1 40 s)) (upd sfl k (tnV 0 9 (tnS tx L 1 40 s))) (upd sdi k (rdM tx L (sd - 1) 151 0 (tnS tx L 0 9 (tnS tx L 1 40 s))).1) sb sst sp sr nw od bs) := by
  refine C.of (by decide +kernel) (by simp [Value.category]) (Nat.le_of_ble_eq_true rfl) ?_
  change J g mX7_readBody 5 0 0 _ (W2 pre de we da bo be sg pi ru st wa kn im ik tm to tr tx tn (nI (s).1) (nI (s).2.1) ((s).2.2.1) ((s).2.2.2.1) ((s).2.2.2.2) it sd swt (nI k) sbx sfl sdi sb sst sp sr nw od bs) 0 [some (.ref 129), some (.int 108)] []
  refine j_iload_n (pc := 0) dX7_readBody_0 rfl ?_
  refine j_lookup (pc := 1) (off := 75) (tgt := 76) dX7_readBody_1 (by decide) (by decide) rfl ?_
  refine j_aload_n (pc := 76) dX7_readBody_76 rfl ?_
  refine j_v0n (pc := 77) (ci := 7) dX7_readBody_77 mc_X7_readDead ml_X7_132 im_X7_readDead se_X7_readDead rfl rfl (by apply lkE; (with_reducible first | exact lkM_129 hp | exact lkM_133 hp | exact lkM_144 hp | exact lkM_134 hp | exact lkM_130 hp | exact lkM_131 hp | exact lkM_132 hp | exact lkM_135 hp | exact lkM_136 hp | exact lkM_137 hp | exact lkM_138 hp | exact lkM_145 hp | exact lkM_146 hp | exact lkM_139 hp | exact lkM_140 hp | exact lkM_141 hp | exact lkM_142 hp | exact lkM_143 hp); rfl) (by omega) (m_readDead hp htn hL hx (s := s) hs hk) (Nat.le_of_ble_eq_true rfl) ?_
  refine j_goto (pc := 80) (tgt := 138) dX7_readBody_80 rfl ?_
  refine j_return (pc := 138) dX7_readBody_138 rfl ?_
  exact ⟨rfl, rfl⟩

set_option maxRecDepth 20000 in
set_option maxHeartbeats 200000 in
theorem m_body112 (hp : pre.length = 129) {L : Nat} (htn : tn = nI L) (hL : L ≤ 150) (hx : ∀ k, k < L → 0 ≤ tx k) {s : MSt} (hs : s.1 ≤ L)  : CD g 5 mX7_readBody [.ref 129, .int 112] (W2 pre de we da bo be sg pi ru st wa kn im ik tm to tr tx tn (nI (s).1) (nI (s).2.1) ((s).2.2.1) ((s).2.2.2.1) ((s).2.2.2.2) it sd swt sdd sbx sfl sdi sb sst sp sr nw od bs) none (W2 pre de we da bo be sg pi ru st wa kn im ik tm to tr tx tn (nI (tnS tx L 10 99 s).1) (nI (tnS tx L 10 99 s).2.1) ((tnS tx L 10 99 s).2.2.1) ((tnS tx L 10 99 s).2.2.2.1) ((tnS tx L 10 99 s).2.2.2.2) it sd swt sdd sbx sfl sdi sb sst (tnV 10 99 s) sr nw od bs) := by
  refine C.of (by decide +kernel) (by simp [Value.category]) (Nat.le_of_ble_eq_true rfl) ?_
  change J g mX7_readBody 5 0 0 _ (W2 pre de we da bo be sg pi ru st wa kn im ik tm to tr tx tn (nI (s).1) (nI (s).2.1) ((s).2.2.1) ((s).2.2.2.1) ((s).2.2.2.2) it sd swt sdd sbx sfl sdi sb sst sp sr nw od bs) 0 [some (.ref 129), some (.int 112)] []
  refine j_iload_n (pc := 0) dX7_readBody_0 rfl ?_
  refine j_lookup (pc := 1) (off := 111) (tgt := 112) dX7_readBody_1 (by decide) (by decide) rfl ?_
  refine j_aload_n (pc := 112) dX7_readBody_112 rfl ?_
  refine j_aload_n (pc := 113) dX7_readBody_113 rfl ?_
  refine j_bipush (pc := 114) dX7_readBody_114 kb_10 ?_
  refine j_bipush (pc := 116) dX7_readBody_116 kb_99 ?_
  refine j_v2 (pc := 118) (ci := 7) dX7_readBody_118 mc_X7_takesNumber ml_X7_112 im_X7_takesNumber se_X7_takesNumber rfl rfl (by apply lkE; (with_reducible first | exact lkM_129 hp | exact lkM_133 hp | exact lkM_144 hp | exact lkM_134 hp | exact lkM_130 hp | exact lkM_131 hp | exact lkM_132 hp | exact lkM_135 hp | exact lkM_136 hp | exact lkM_137 hp | exact lkM_138 hp | exact lkM_145 hp | exact lkM_146 hp | exact lkM_139 hp | exact lkM_140 hp | exact lkM_141 hp | exact lkM_142 hp | exact lkM_143 hp); rfl) (by omega) (m_takes0 hp htn hL hx (c := s.1) (a := s.2.1) (tk := s.2.2.1) (nu := s.2.2.2.1) (w := s.2.2.2.2) hs) (Nat.le_of_ble_eq_true rfl) ?_
  refine j_putf (pc := 121) dX7_readBody_121 fl_X7_126 (jfit_i _) (by apply lkE; (with_reducible first | exact lkM_129 hp | exact lkM_133 hp | exact lkM_144 hp | exact lkM_134 hp | exact lkM_130 hp | exact lkM_131 hp | exact lkM_132 hp | exact lkM_135 hp | exact lkM_136 hp | exact lkM_137 hp | exact lkM_138 hp | exact lkM_145 hp | exact lkM_146 hp | exact lkM_139 hp | exact lkM_140 hp | exact lkM_141 hp | exact lkM_142 hp | exact lkM_143 hp); rfl) (upM_129 hp) ?_
  refine j_goto (pc := 124) (tgt := 138) dX7_readBody_124 rfl ?_
  refine j_return (pc := 138) dX7_readBody_138 rfl ?_
  exact ⟨rfl, rfl⟩

set_option maxRecDepth 20000 in
set_option maxHeartbeats 200000 in
theorem m_bodyR (hp : pre.length = 129) {L : Nat} (htn : tn = nI L) (hL : L ≤ 150) (hx : ∀ k, k < L → 0 ≤ tx k) {s : MSt} (hs : s.1 ≤ L) {c : Int32} (n98 : ¬ c = 98) (n100 : ¬ c = 100) (n108 : ¬ c = 108) (n112 : ¬ c = 112) : CD g 5 mX7_readBody [.ref 129, .int c] (W2 pre de we da bo be sg pi ru st wa kn im ik tm to tr tx tn (nI (s).1) (nI (s).2.1) ((s).2.2.1) ((s).2.2.2.1) ((s).2.2.2.2) it sd swt sdd sbx sfl sdi sb sst sp sr nw od bs) none (W2 pre de we da bo be sg pi ru st wa kn im ik tm to tr tx tn (nI (tnS tx L 0 9 s).1) (nI (tnS tx L 0 9 s).2.1) ((tnS tx L 0 9 s).2.2.1) ((tnS tx L 0 9 s).2.2.2.1) ((tnS tx L 0 9 s).2.2.2.2) it sd swt sdd sbx sfl sdi sb sst sp (tnV 0 9 s) nw od bs) := by
  refine C.of (by decide +kernel) (by simp [Value.category]) (Nat.le_of_ble_eq_true rfl) ?_
  change J g mX7_readBody 5 0 0 _ (W2 pre de we da bo be sg pi ru st wa kn im ik tm to tr tx tn (nI (s).1) (nI (s).2.1) ((s).2.2.1) ((s).2.2.2.1) ((s).2.2.2.2) it sd swt sdd sbx sfl sdi sb sst sp sr nw od bs) 0 [some (.ref 129), some (.int c)] []
  refine j_iload_n (pc := 0) dX7_readBody_0 rfl ?_
  refine j_lookup (pc := 1) (off := 126) (tgt := 127) dX7_readBody_1 (by decide) (by rw [lv_osw n98 (a := 98) (by decide), lv_osw n100 (a := 100) (by decide), lv_osw n108 (a := 108) (by decide), lv_osw n112 (a := 112) (by decide)]; rfl) rfl ?_
  refine j_aload_n (pc := 127) dX7_readBody_127 rfl ?_
  refine j_aload_n (pc := 128) dX7_readBody_128 rfl ?_
  refine j_iconst (pc := 129) dX7_readBody_129 kc_0 ?_
  refine j_bipush (pc := 130) dX7_readBody_130 kb_9 ?_
  refine j_v2 (pc := 132) (ci := 7) dX7_readBody_132 mc_X7_takesNumber ml_X7_112 im_X7_takesNumber se_X7_takesNumber rfl rfl (by apply lkE; (with_reducible first | exact lkM_129 hp | exact lkM_133 hp | exact lkM_144 hp | exact lkM_134 hp | exact lkM_130 hp | exact lkM_131 hp | exact lkM_132 hp | exact lkM_135 hp | exact lkM_136 hp | exact lkM_137 hp | exact lkM_138 hp | exact lkM_145 hp | exact lkM_146 hp | exact lkM_139 hp | exact lkM_140 hp | exact lkM_141 hp | exact lkM_142 hp | exact lkM_143 hp); rfl) (by omega) (m_takes0 hp htn hL hx (c := s.1) (a := s.2.1) (tk := s.2.2.1) (nu := s.2.2.2.1) (w := s.2.2.2.2) hs) (Nat.le_of_ble_eq_true rfl) ?_
  refine j_putf (pc := 135) dX7_readBody_135 fl_X7_129 (jfit_i _) (by apply lkE; (with_reducible first | exact lkM_129 hp | exact lkM_133 hp | exact lkM_144 hp | exact lkM_134 hp | exact lkM_130 hp | exact lkM_131 hp | exact lkM_132 hp | exact lkM_135 hp | exact lkM_136 hp | exact lkM_137 hp | exact lkM_138 hp | exact lkM_145 hp | exact lkM_146 hp | exact lkM_139 hp | exact lkM_140 hp | exact lkM_141 hp | exact lkM_142 hp | exact lkM_143 hp); rfl) (upM_129 hp) ?_
  refine j_return (pc := 138) dX7_readBody_138 rfl ?_
  exact ⟨rfl, rfl⟩

set_option maxRecDepth 20000 in
set_option maxHeartbeats 200000 in
theorem m_item98 (hp : pre.length = 129) {L : Nat} (htn : tn = nI L) (hL : L ≤ 150) (hx : ∀ k, k < L → 0 ≤ tx k) {s : MSt} {D : SD} (hs : s.1 ≤ L) (hd : dOk D) (h1 : s.2.2.1 = 1) (hm : mbD s.2.2.2.1 D = true) (hc : s.2.2.2.1 = 98) : CD g 6 mX7_readItem [.ref 129] (W2 pre de we da bo be sg pi ru st wa kn im ik tm to tr tx tn (nI (s).1) (nI (s).2.1) ((s).2.2.1) ((s).2.2.2.1) ((s).2.2.2.2) it (nI D.1) (D.2.1) (nI D.2.2.1) (D.2.2.2.1) (D.2.2.2.2.1) (D.2.2.2.2.2.1) (nI D.2.2.2.2.2.2.1) (D.2.2.2.2.2.2.2.1) (D.2.2.2.2.2.2.2.2.1) (D.2.2.2.2.2.2.2.2.2) nw od bs) none (W2 pre de we da bo be sg pi ru st wa kn im ik tm to tr tx tn (nI ((itB tx L s D).1).1) (nI ((itB tx L s D).1).2.1) (((itB tx L s D).1).2.2.1) (((itB tx L s D).1).2.2.2.1) (((itB tx L s D).1).2.2.2.2) it (nI (itB tx L s D).2.1) ((itB tx L s D).2.2.1) (nI (itB tx L s D).2.2.2.1) ((itB tx L s D).2.2.2.2.1) ((itB tx L s D).2.2.2.2.2.1) ((itB tx L s D).2.2.2.2.2.2.1) (nI (itB tx L s D).2.2.2.2.2.2.2.1) ((itB tx L s D).2.2.2.2.2.2.2.2.1) ((itB tx L s D).2.2.2.2.2.2.2.2.2.1) ((itB tx L s D).2.2.2.2.2.2.2.2.2.2) nw od bs) := by
  refine C.of (by decide +kernel) (by simp [Value.category]) (Nat.le_of_ble_eq_true rfl) ?_
  change J g mX7_readItem 6 0 0 _ (W2 pre de we da bo be sg pi ru st wa kn im ik tm to tr tx tn (nI (s).1) (nI (s).2.1) ((s).2.2.1) ((s).2.2.2.1) ((s).2.2.2.2) it (nI D.1) (D.2.1) (nI D.2.2.1) (D.2.2.2.1) (D.2.2.2.2.1) (D.2.2.2.2.2.1) (nI D.2.2.2.2.2.2.1) (D.2.2.2.2.2.2.2.1) (D.2.2.2.2.2.2.2.2.1) (D.2.2.2.2.2.2.2.2.2) nw od bs) 0 [some (.ref 129), none] []
  refine j_aload_n (pc := 0) dX7_readItem_0 rfl ?_
  refine j_getf (pc := 1) dX7_readItem_1 fl_X7_92 (by apply lkE; (with_reducible first | exact lkM_129 hp | exact lkM_133 hp | exact lkM_144 hp | exact lkM_134 hp | exact lkM_130 hp | exact lkM_131 hp | exact lkM_132 hp | exact lkM_135 hp | exact lkM_136 hp | exact lkM_137 hp | exact lkM_138 hp | exact lkM_145 hp | exact lkM_146 hp | exact lkM_139 hp | exact lkM_140 hp | exact lkM_141 hp | exact lkM_142 hp | exact lkM_143 hp); rfl) rfl ?_
  refine j_istore_n (pc := 4) dX7_readItem_4 rfl (Nat.le_of_ble_eq_true rfl) rfl ?_
  refine j_aload_n (pc := 5) dX7_readItem_5 rfl ?_
  refine j_getf (pc := 6) dX7_readItem_6 fl_X7_95 (by apply lkE; (with_reducible first | exact lkM_129 hp | exact lkM_133 hp | exact lkM_144 hp | exact lkM_134 hp | exact lkM_130 hp | exact lkM_131 hp | exact lkM_132 hp | exact lkM_135 hp | exact lkM_136 hp | exact lkM_137 hp | exact lkM_138 hp | exact lkM_145 hp | exact lkM_146 hp | exact lkM_139 hp | exact lkM_140 hp | exact lkM_141 hp | exact lkM_142 hp | exact lkM_143 hp); rfl) rfl ?_
  refine j_iconst (pc := 9) dX7_readItem_9 kc_1 ?_
  refine j_icmp_ne (pc := 10) (tgt := 21) dX7_readItem_10 rfl (fun zc10 => absurd h1 zc10) (fun _ => ?_)
  refine j_aload_n (pc := 13) dX7_readItem_13 rfl ?_
  refine j_iload_n (pc := 14) dX7_readItem_14 rfl ?_
  refine j_v1 (pc := 15) (ci := 7) dX7_readItem_15 mc_X7_mayBegin ml_X7_135 im_X7_mayBegin se_X7_mayBegin rfl rfl (by apply lkE; (with_reducible first | exact lkM_129 hp | exact lkM_133 hp | exact lkM_144 hp | exact lkM_134 hp | exact lkM_130 hp | exact lkM_131 hp | exact lkM_132 hp | exact lkM_135 hp | exact lkM_136 hp | exact lkM_137 hp | exact lkM_138 hp | exact lkM_145 hp | exact lkM_146 hp | exact lkM_139 hp | exact lkM_140 hp | exact lkM_141 hp | exact lkM_142 hp | exact lkM_143 hp); rfl) (by omega) (m_mayBegin hp) (Nat.le_of_ble_eq_true rfl) ?_
  refine j_bne (pc := 18) (tgt := 27) dX7_readItem_18 rfl (fun _ => ?_) (fun zc18 => by cases (hm).symm.trans zc18)
  refine j_aload_n (pc := 27) dX7_readItem_27 rfl ?_
  refine j_v0n (pc := 28) (ci := 7) dX7_readItem_28 mc_X7_next ml_X7_106 im_X7_next se_X7_next rfl rfl (by apply lkE; (with_reducible first | exact lkM_129 hp | exact lkM_133 hp | exact lkM_144 hp | exact lkM_134 hp | exact lkM_130 hp | exact lkM_131 hp | exact lkM_132 hp | exact lkM_135 hp | exact lkM_136 hp | exact lkM_137 hp | exact lkM_138 hp | exact lkM_145 hp | exact lkM_146 hp | exact lkM_139 hp | exact lkM_140 hp | exact lkM_141 hp | exact lkM_142 hp | exact lkM_143 hp); rfl) (by omega) (m_next hp htn hL hx (s := s) hs) (Nat.le_of_ble_eq_true rfl) ?_
  refine j_aload_n (pc := 31) dX7_readItem_31 rfl ?_
  refine j_iload_n (pc := 32) dX7_readItem_32 rfl ?_
  rw [hc]
  refine j_v1n (pc := 33) (ci := 7) dX7_readItem_33 mc_X7_readBody ml_X7_138 im_X7_readBody se_X7_readBody rfl rfl (by apply lkE; (with_reducible first | exact lkM_129 hp | exact lkM_133 hp | exact lkM_144 hp | exact lkM_134 hp | exact lkM_130 hp | exact lkM_131 hp | exact lkM_132 hp | exact lkM_135 hp | exact lkM_136 hp | exact lkM_137 hp | exact lkM_138 hp | exact lkM_145 hp | exact lkM_146 hp | exact lkM_139 hp | exact lkM_140 hp | exact lkM_141 hp | exact lkM_142 hp | exact lkM_143 hp); rfl) (by omega) (m_body98 hp htn hL hx (s := nextM tx L s) (nx_chain (tx := tx) hs).1 (mbD_98 hd (hc ▸ hm))) (Nat.le_of_ble_eq_true rfl) ?_
  have z := nx_chain (tx := tx) hs
  exact m_close hp htn hL hx (s := tnS tx L 1 60 (nextM tx L s)) (tn_chain z.1 z.2).1 ⟨rfl, rfl⟩

set_option maxRecDepth 20000 in
set_option maxHeartbeats 200000 in
theorem m_item100 (hp : pre.length = 129) {L : Nat} (htn : tn = nI L) (hL : L ≤ 150) (hx : ∀ k, k < L → 0 ≤ tx k) {s : MSt} {D : SD} (hs : s.1 ≤ L) (hd : dOk D) (h1 : s.2.2.1 = 1) (hm : mbD s.2.2.2.1 D = true) (hc : s.2.2.2.1 = 100) : CD g 6 mX7_readItem [.ref 129] (W2 pre de we da bo be sg pi ru st wa kn im ik tm to tr tx tn (nI (s).1) (nI (s).2.1) ((s).2.2.1) ((s).2.2.2.1) ((s).2.2.2.2) it (nI D.1) (D.2.1) (nI D.2.2.1) (D.2.2.2.1) (D.2.2.2.2.1) (D.2.2.2.2.2.1) (nI D.2.2.2.2.2.2.1) (D.2.2.2.2.2.2.2.1) (D.2.2.2.2.2.2.2.2.1) (D.2.2.2.2.2.2.2.2.2) nw od bs) none (W2 pre de we da bo be sg pi ru st wa kn im ik tm to tr tx tn (nI ((itD tx L s D).1).1) (nI ((itD tx L s D).1).2.1) (((itD tx L s D).1).2.2.1) (((itD tx L s D).1).2.2.2.1) (((itD tx L s D).1).2.2.2.2) it (nI (itD tx L s D).2.1) ((itD tx L s D).2.2.1) (nI (itD tx L s D).2.2.2.1) ((itD tx L s D).2.2.2.2.1) ((itD tx L s D).2.2.2.2.2.1) ((itD tx L s D).2.2.2.2.2.2.1) (nI (itD tx L s D).2.2.2.2.2.2.2.1) ((itD tx L s D).2.2.2.2.2.2.2.2.1) ((itD tx L s D).2.2.2.2.2.2.2.2.2.1) ((itD tx L s D).2.2.2.2.2.2.2.2.2.2) nw od bs) := by
  refine C.of (by decide +kernel) (by simp [Value.category]) (Nat.le_of_ble_eq_true rfl) ?_
  change J g mX7_readItem 6 0 0 _ (W2 pre de we da bo be sg pi ru st wa kn im ik tm to tr tx tn (nI (s).1) (nI (s).2.1) ((s).2.2.1) ((s).2.2.2.1) ((s).2.2.2.2) it (nI D.1) (D.2.1) (nI D.2.2.1) (D.2.2.2.1) (D.2.2.2.2.1) (D.2.2.2.2.2.1) (nI D.2.2.2.2.2.2.1) (D.2.2.2.2.2.2.2.1) (D.2.2.2.2.2.2.2.2.1) (D.2.2.2.2.2.2.2.2.2) nw od bs) 0 [some (.ref 129), none] []
  refine j_aload_n (pc := 0) dX7_readItem_0 rfl ?_
  refine j_getf (pc := 1) dX7_readItem_1 fl_X7_92 (by apply lkE; (with_reducible first | exact lkM_129 hp | exact lkM_133 hp | exact lkM_144 hp | exact lkM_134 hp | exact lkM_130 hp | exact lkM_131 hp | exact lkM_132 hp | exact lkM_135 hp | exact lkM_136 hp | exact lkM_137 hp | exact lkM_138 hp | exact lkM_145 hp | exact lkM_146 hp | exact lkM_139 hp | exact lkM_140 hp | exact lkM_141 hp | exact lkM_142 hp | exact lkM_143 hp); rfl) rfl ?_
  refine j_istore_n (pc := 4) dX7_readItem_4 rfl (Nat.le_of_ble_eq_true rfl) rfl ?_
  refine j_aload_n (pc := 5) dX7_readItem_5 rfl ?_
  refine j_getf (pc := 6) dX7_readItem_6 fl_X7_95 (by apply lkE; (with_reducible first | exact lkM_129 hp | exact lkM_133 hp | exact lkM_144 hp | exact lkM_134 hp | exact lkM_130 hp | exact lkM_131 hp | exact lkM_132 hp | exact lkM_135 hp | exact lkM_136 hp | exact lkM_137 hp | exact lkM_138 hp | exact lkM_145 hp | exact lkM_146 hp | exact lkM_139 hp | exact lkM_140 hp | exact lkM_141 hp | exact lkM_142 hp | exact lkM_143 hp); rfl) rfl ?_
  refine j_iconst (pc := 9) dX7_readItem_9 kc_1 ?_
  refine j_icmp_ne (pc := 10) (tgt := 21) dX7_readItem_10 rfl (fun zc10 => absurd h1 zc10) (fun _ => ?_)
  refine j_aload_n (pc := 13) dX7_readItem_13 rfl ?_
  refine j_iload_n (pc := 14) dX7_readItem_14 rfl ?_
  refine j_v1 (pc := 15) (ci := 7) dX7_readItem_15 mc_X7_mayBegin ml_X7_135 im_X7_mayBegin se_X7_mayBegin rfl rfl (by apply lkE; (with_reducible first | exact lkM_129 hp | exact lkM_133 hp | exact lkM_144 hp | exact lkM_134 hp | exact lkM_130 hp | exact lkM_131 hp | exact lkM_132 hp | exact lkM_135 hp | exact lkM_136 hp | exact lkM_137 hp | exact lkM_138 hp | exact lkM_145 hp | exact lkM_146 hp | exact lkM_139 hp | exact lkM_140 hp | exact lkM_141 hp | exact lkM_142 hp | exact lkM_143 hp); rfl) (by omega) (m_mayBegin hp) (Nat.le_of_ble_eq_true rfl) ?_
  refine j_bne (pc := 18) (tgt := 27) dX7_readItem_18 rfl (fun _ => ?_) (fun zc18 => by cases (hm).symm.trans zc18)
  refine j_aload_n (pc := 27) dX7_readItem_27 rfl ?_
  refine j_v0n (pc := 28) (ci := 7) dX7_readItem_28 mc_X7_next ml_X7_106 im_X7_next se_X7_next rfl rfl (by apply lkE; (with_reducible first | exact lkM_129 hp | exact lkM_133 hp | exact lkM_144 hp | exact lkM_134 hp | exact lkM_130 hp | exact lkM_131 hp | exact lkM_132 hp | exact lkM_135 hp | exact lkM_136 hp | exact lkM_137 hp | exact lkM_138 hp | exact lkM_145 hp | exact lkM_146 hp | exact lkM_139 hp | exact lkM_140 hp | exact lkM_141 hp | exact lkM_142 hp | exact lkM_143 hp); rfl) (by omega) (m_next hp htn hL hx (s := s) hs) (Nat.le_of_ble_eq_true rfl) ?_
  refine j_aload_n (pc := 31) dX7_readItem_31 rfl ?_
  refine j_iload_n (pc := 32) dX7_readItem_32 rfl ?_
  rw [hc]
  refine j_v1n (pc := 33) (ci := 7) dX7_readItem_33 mc_X7_readBody ml_X7_138 im_X7_readBody se_X7_readBody rfl rfl (by apply lkE; (with_reducible first | exact lkM_129 hp | exact lkM_133 hp | exact lkM_144 hp | exact lkM_134 hp | exact lkM_130 hp | exact lkM_131 hp | exact lkM_132 hp | exact lkM_135 hp | exact lkM_136 hp | exact lkM_137 hp | exact lkM_138 hp | exact lkM_145 hp | exact lkM_146 hp | exact lkM_139 hp | exact lkM_140 hp | exact lkM_141 hp | exact lkM_142 hp | exact lkM_143 hp); rfl) (by omega) (m_body100 hp htn hL hx (s := nextM tx L s) (nx_chain (tx := tx) hs).1 (mbD_100 hd (hc ▸ hm))) (Nat.le_of_ble_eq_true rfl) ?_
  have z := nx_chain (tx := tx) hs
  exact m_close hp htn hL hx (s := tnS tx L 0 40 (nextM tx L s)) (tn_chain z.1 z.2).1 ⟨rfl, rfl⟩

set_option maxRecDepth 20000 in
set_option maxHeartbeats 200000 in
theorem m_item108 (hp : pre.length = 129) {L : Nat} (htn : tn = nI L) (hL : L ≤ 150) (hx : ∀ k, k < L → 0 ≤ tx k) {s : MSt} {D : SD} (hs : s.1 ≤ L) (hd : dOk D) (h1 : s.2.2.1 = 1) (hm : mbD s.2.2.2.1 D = true) (hc : s.2.2.2.1 = 108) : CD g 6 mX7_readItem [.ref 129] (W2 pre de we da bo be sg pi ru st wa kn im ik tm to tr tx tn (nI (s).1) (nI (s).2.1) ((s).2.2.1) ((s).2.2.2.1) ((s).2.2.2.2) it (nI D.1) (D.2.1) (nI D.2.2.1) (D.2.2.2.1) (D.2.2.2.2.1) (D.2.2.2.2.2.1) (nI D.2.2.2.2.2.2.1) (D.2.2.2.2.2.2.2.1) (D.2.2.2.2.2.2.2.2.1) (D.2.2.2.2.2.2.2.2.2) nw od bs) none (W2 pre de we da bo be sg pi ru st wa kn im ik tm to tr tx tn (nI ((itL tx L s D).1).1) (nI ((itL tx L s D).1).2.1) (((itL tx L s D).1).2.2.1) (((itL tx L s D).1).2.2.2.1) (((itL tx L s D).1).2.2.2.2) it (nI (itL tx L s D).2.1) ((itL tx L s D).2.2.1) (nI (itL tx L s D).2.2.2.1) ((itL tx L s D).2.2.2.2.1) ((itL tx L s D).2.2.2.2.2.1) ((itL tx L s D).2.2.2.2.2.2.1) (nI (itL tx L s D).2.2.2.2.2.2.2.1) ((itL tx L s D).2.2.2.2.2.2.2.2.1) ((itL tx L s D).2.2.2.2.2.2.2.2.2.1) ((itL tx L s D).2.2.2.2.2.2.2.2.2.2) nw od bs) := by
  refine C.of (by decide +kernel) (by simp [Value.category]) (Nat.le_of_ble_eq_true rfl) ?_
  change J g mX7_readItem 6 0 0 _ (W2 pre de we da bo be sg pi ru st wa kn im ik tm to tr tx tn (nI (s).1) (nI (s).2.1) ((s).2.2.1) ((s).2.2.2.1) ((s).2.2.2.2) it (nI D.1) (D.2.1) (nI D.2.2.1) (D.2.2.2.1) (D.2.2.2.2.1) (D.2.2.2.2.2.1) (nI D.2.2.2.2.2.2.1) (D.2.2.2.2.2.2.2.1) (D.2.2.2.2.2.2.2.2.1) (D.2.2.2.2.2.2.2.2.2) nw od bs) 0 [some (.ref 129), none] []
  refine j_aload_n (pc := 0) dX7_readItem_0 rfl ?_
  refine j_getf (pc := 1) dX7_readItem_1 fl_X7_92 (by apply lkE; (with_reducible first | exact lkM_129 hp | exact lkM_133 hp | exact lkM_144 hp | exact lkM_134 hp | exact lkM_130 hp | exact lkM_131 hp | exact lkM_132 hp | exact lkM_135 hp | exact lkM_136 hp | exact lkM_137 hp | exact lkM_138 hp | exact lkM_145 hp | exact lkM_146 hp | exact lkM_139 hp | exact lkM_140 hp | exact lkM_141 hp | exact lkM_142 hp | exact lkM_143 hp); rfl) rfl ?_
  refine j_istore_n (pc := 4) dX7_readItem_4 rfl (Nat.le_of_ble_eq_true rfl) rfl ?_
  refine j_aload_n (pc := 5) dX7_readItem_5 rfl ?_
  refine j_getf (pc := 6) dX7_readItem_6 fl_X7_95 (by apply lkE; (with_reducible first | exact lkM_129 hp | exact lkM_133 hp | exact lkM_144 hp | exact lkM_134 hp | exact lkM_130 hp | exact lkM_131 hp | exact lkM_132 hp | exact lkM_135 hp | exact lkM_136 hp | exact lkM_137 hp | exact lkM_138 hp | exact lkM_145 hp | exact lkM_146 hp | exact lkM_139 hp | exact lkM_140 hp | exact lkM_141 hp | exact lkM_142 hp | exact lkM_143 hp); rfl) rfl ?_
  refine j_iconst (pc := 9) dX7_readItem_9 kc_1 ?_
  refine j_icmp_ne (pc := 10) (tgt := 21) dX7_readItem_10 rfl (fun zc10 => absurd h1 zc10) (fun _ => ?_)
  refine j_aload_n (pc := 13) dX7_readItem_13 rfl ?_
  refine j_iload_n (pc := 14) dX7_readItem_14 rfl ?_
  refine j_v1 (pc := 15) (ci := 7) dX7_readItem_15 mc_X7_mayBegin ml_X7_135 im_X7_mayBegin se_X7_mayBegin rfl rfl (by apply lkE; (with_reducible first | exact lkM_129 hp | exact lkM_133 hp | exact lkM_144 hp | exact lkM_134 hp | exact lkM_130 hp | exact lkM_131 hp | exact lkM_132 hp | exact lkM_135 hp | exact lkM_136 hp | exact lkM_137 hp | exact lkM_138 hp | exact lkM_145 hp | exact lkM_146 hp | exact lkM_139 hp | exact lkM_140 hp | exact lkM_141 hp | exact lkM_142 hp | exact lkM_143 hp); rfl) (by omega) (m_mayBegin hp) (Nat.le_of_ble_eq_true rfl) ?_
  refine j_bne (pc := 18) (tgt := 27) dX7_readItem_18 rfl (fun _ => ?_) (fun zc18 => by cases (hm).symm.trans zc18)
  refine j_aload_n (pc := 27) dX7_readItem_27 rfl ?_
  refine j_v0n (pc := 28) (ci := 7) dX7_readItem_28 mc_X7_next ml_X7_106 im_X7_next se_X7_next rfl rfl (by apply lkE; (with_reducible first | exact lkM_129 hp | exact lkM_133 hp | exact lkM_144 hp | exact lkM_134 hp | exact lkM_130 hp | exact lkM_131 hp | exact lkM_132 hp | exact lkM_135 hp | exact lkM_136 hp | exact lkM_137 hp | exact lkM_138 hp | exact lkM_145 hp | exact lkM_146 hp | exact lkM_139 hp | exact lkM_140 hp | exact lkM_141 hp | exact lkM_142 hp | exact lkM_143 hp); rfl) (by omega) (m_next hp htn hL hx (s := s) hs) (Nat.le_of_ble_eq_true rfl) ?_
  refine j_aload_n (pc := 31) dX7_readItem_31 rfl ?_
  refine j_iload_n (pc := 32) dX7_readItem_32 rfl ?_
  rw [hc]
  refine j_v1n (pc := 33) (ci := 7) dX7_readItem_33 mc_X7_readBody ml_X7_138 im_X7_readBody se_X7_readBody rfl rfl (by apply lkE; (with_reducible first | exact lkM_129 hp | exact lkM_133 hp | exact lkM_144 hp | exact lkM_134 hp | exact lkM_130 hp | exact lkM_131 hp | exact lkM_132 hp | exact lkM_135 hp | exact lkM_136 hp | exact lkM_137 hp | exact lkM_138 hp | exact lkM_145 hp | exact lkM_146 hp | exact lkM_139 hp | exact lkM_140 hp | exact lkM_141 hp | exact lkM_142 hp | exact lkM_143 hp); rfl) (by omega) (m_body108 hp htn hL hx (s := nextM tx L s) (nx_chain (tx := tx) hs).1 (mbD_108 hd (hc ▸ hm))) (Nat.le_of_ble_eq_true rfl) ?_
  have z := nx_chain (tx := tx) hs
  exact m_close hp htn hL hx (s := (rdD tx L s D).2) (rdD_chain hs).1 ⟨rfl, rfl⟩

set_option maxRecDepth 20000 in
set_option maxHeartbeats 200000 in
theorem m_item112 (hp : pre.length = 129) {L : Nat} (htn : tn = nI L) (hL : L ≤ 150) (hx : ∀ k, k < L → 0 ≤ tx k) {s : MSt} {D : SD} (hs : s.1 ≤ L) (hd : dOk D) (h1 : s.2.2.1 = 1) (hm : mbD s.2.2.2.1 D = true) (hc : s.2.2.2.1 = 112) : CD g 6 mX7_readItem [.ref 129] (W2 pre de we da bo be sg pi ru st wa kn im ik tm to tr tx tn (nI (s).1) (nI (s).2.1) ((s).2.2.1) ((s).2.2.2.1) ((s).2.2.2.2) it (nI D.1) (D.2.1) (nI D.2.2.1) (D.2.2.2.1) (D.2.2.2.2.1) (D.2.2.2.2.2.1) (nI D.2.2.2.2.2.2.1) (D.2.2.2.2.2.2.2.1) (D.2.2.2.2.2.2.2.2.1) (D.2.2.2.2.2.2.2.2.2) nw od bs) none (W2 pre de we da bo be sg pi ru st wa kn im ik tm to tr tx tn (nI ((itP tx L s D).1).1) (nI ((itP tx L s D).1).2.1) (((itP tx L s D).1).2.2.1) (((itP tx L s D).1).2.2.2.1) (((itP tx L s D).1).2.2.2.2) it (nI (itP tx L s D).2.1) ((itP tx L s D).2.2.1) (nI (itP tx L s D).2.2.2.1) ((itP tx L s D).2.2.2.2.1) ((itP tx L s D).2.2.2.2.2.1) ((itP tx L s D).2.2.2.2.2.2.1) (nI (itP tx L s D).2.2.2.2.2.2.2.1) ((itP tx L s D).2.2.2.2.2.2.2.2.1) ((itP tx L s D).2.2.2.2.2.2.2.2.2.1) ((itP tx L s D).2.2.2.2.2.2.2.2.2.2) nw od bs) := by
  refine C.of (by decide +kernel) (by simp [Value.category]) (Nat.le_of_ble_eq_true rfl) ?_
  change J g mX7_readItem 6 0 0 _ (W2 pre de we da bo be sg pi ru st wa kn im ik tm to tr tx tn (nI (s).1) (nI (s).2.1) ((s).2.2.1) ((s).2.2.2.1) ((s).2.2.2.2) it (nI D.1) (D.2.1) (nI D.2.2.1) (D.2.2.2.1) (D.2.2.2.2.1) (D.2.2.2.2.2.1) (nI D.2.2.2.2.2.2.1) (D.2.2.2.2.2.2.2.1) (D.2.2.2.2.2.2.2.2.1) (D.2.2.2.2.2.2.2.2.2) nw od bs) 0 [some (.ref 129), none] []
  refine j_aload_n (pc := 0) dX7_readItem_0 rfl ?_
  refine j_getf (pc := 1) dX7_readItem_1 fl_X7_92 (by apply lkE; (with_reducible first | exact lkM_129 hp | exact lkM_133 hp | exact lkM_144 hp | exact lkM_134 hp | exact lkM_130 hp | exact lkM_131 hp | exact lkM_132 hp | exact lkM_135 hp | exact lkM_136 hp | exact lkM_137 hp | exact lkM_138 hp | exact lkM_145 hp | exact lkM_146 hp | exact lkM_139 hp | exact lkM_140 hp | exact lkM_141 hp | exact lkM_142 hp | exact lkM_143 hp); rfl) rfl ?_
  refine j_istore_n (pc := 4) dX7_readItem_4 rfl (Nat.le_of_ble_eq_true rfl) rfl ?_
  refine j_aload_n (pc := 5) dX7_readItem_5 rfl ?_
  refine j_getf (pc := 6) dX7_readItem_6 fl_X7_95 (by apply lkE; (with_reducible first | exact lkM_129 hp | exact lkM_133 hp | exact lkM_144 hp | exact lkM_134 hp | exact lkM_130 hp | exact lkM_131 hp | exact lkM_132 hp | exact lkM_135 hp | exact lkM_136 hp | exact lkM_137 hp | exact lkM_138 hp | exact lkM_145 hp | exact lkM_146 hp | exact lkM_139 hp | exact lkM_140 hp | exact lkM_141 hp | exact lkM_142 hp | exact lkM_143 hp); rfl) rfl ?_
  refine j_iconst (pc := 9) dX7_readItem_9 kc_1 ?_
  refine j_icmp_ne (pc := 10) (tgt := 21) dX7_readItem_10 rfl (fun zc10 => absurd h1 zc10) (fun _ => ?_)
  refine j_aload_n (pc := 13) dX7_readItem_13 rfl ?_
  refine j_iload_n (pc := 14) dX7_readItem_14 rfl ?_
  refine j_v1 (pc := 15) (ci := 7) dX7_readItem_15 mc_X7_mayBegin ml_X7_135 im_X7_mayBegin se_X7_mayBegin rfl rfl (by apply lkE; (with_reducible first | exact lkM_129 hp | exact lkM_133 hp | exact lkM_144 hp | exact lkM_134 hp | exact lkM_130 hp | exact lkM_131 hp | exact lkM_132 hp | exact lkM_135 hp | exact lkM_136 hp | exact lkM_137 hp | exact lkM_138 hp | exact lkM_145 hp | exact lkM_146 hp | exact lkM_139 hp | exact lkM_140 hp | exact lkM_141 hp | exact lkM_142 hp | exact lkM_143 hp); rfl) (by omega) (m_mayBegin hp) (Nat.le_of_ble_eq_true rfl) ?_
  refine j_bne (pc := 18) (tgt := 27) dX7_readItem_18 rfl (fun _ => ?_) (fun zc18 => by cases (hm).symm.trans zc18)
  refine j_aload_n (pc := 27) dX7_readItem_27 rfl ?_
  refine j_v0n (pc := 28) (ci := 7) dX7_readItem_28 mc_X7_next ml_X7_106 im_X7_next se_X7_next rfl rfl (by apply lkE; (with_reducible first | exact lkM_129 hp | exact lkM_133 hp | exact lkM_144 hp | exact lkM_134 hp | exact lkM_130 hp | exact lkM_131 hp | exact lkM_132 hp | exact lkM_135 hp | exact lkM_136 hp | exact lkM_137 hp | exact lkM_138 hp | exact lkM_145 hp | exact lkM_146 hp | exact lkM_139 hp | exact lkM_140 hp | exact lkM_141 hp | exact lkM_142 hp | exact lkM_143 hp); rfl) (by omega) (m_next hp htn hL hx (s := s) hs) (Nat.le_of_ble_eq_true rfl) ?_
  refine j_aload_n (pc := 31) dX7_readItem_31 rfl ?_
  refine j_iload_n (pc := 32) dX7_readItem_32 rfl ?_
  rw [hc]
  refine j_v1n (pc := 33) (ci := 7) dX7_readItem_33 mc_X7_readBody ml_X7_138 im_X7_readBody se_X7_readBody rfl rfl (by apply lkE; (with_reducible first | exact lkM_129 hp | exact lkM_133 hp | exact lkM_144 hp | exact lkM_134 hp | exact lkM_130 hp | exact lkM_131 hp | exact lkM_132 hp | exact lkM_135 hp | exact lkM_136 hp | exact lkM_137 hp | exact lkM_138 hp | exact lkM_145 hp | exact lkM_146 hp | exact lkM_139 hp | exact lkM_140 hp | exact lkM_141 hp | exact lkM_142 hp | exact lkM_143 hp); rfl) (by omega) (m_body112 hp htn hL hx (s := nextM tx L s) (nx_chain (tx := tx) hs).1) (Nat.le_of_ble_eq_true rfl) ?_
  have z := nx_chain (tx := tx) hs
  exact m_close hp htn hL hx (s := tnS tx L 10 99 (nextM tx L s)) (tn_chain z.1 z.2).1 ⟨rfl, rfl⟩

set_option maxRecDepth 20000 in
set_option maxHeartbeats 200000 in
theorem m_itemR (hp : pre.length = 129) {L : Nat} (htn : tn = nI L) (hL : L ≤ 150) (hx : ∀ k, k < L → 0 ≤ tx k) {s : MSt} {D : SD} (hs : s.1 ≤ L) (hd : dOk D) (h1 : s.2.2.1 = 1) (hm : mbD s.2.2.2.1 D = true) (n98 : ¬ s.2.2.2.1 = 98) (n100 : ¬ s.2.2.2.1 = 100) (n108 : ¬ s.2.2.2.1 = 108) (n112 : ¬ s.2.2.2.1 = 112) : CD g 6 mX7_readItem [.ref 129] (W2 pre de we da bo be sg pi ru st wa kn im ik tm to tr tx tn (nI (s).1) (nI (s).2.1) ((s).2.2.1) ((s).2.2.2.1) ((s).2.2.2.2) it (nI D.1) (D.2.1) (nI D.2.2.1) (D.2.2.2.1) (D.2.2.2.2.1) (D.2.2.2.2.2.1) (nI D.2.2.2.2.2.2.1) (D.2.2.2.2.2.2.2.1) (D.2.2.2.2.2.2.2.2.1) (D.2.2.2.2.2.2.2.2.2) nw od bs) none (W2 pre de we da bo be sg pi ru st wa kn im ik tm to tr tx tn (nI ((itR2 tx L s D).1).1) (nI ((itR2 tx L s D).1).2.1) (((itR2 tx L s D).1).2.2.1) (((itR2 tx L s D).1).2.2.2.1) (((itR2 tx L s D).1).2.2.2.2) it (nI (itR2 tx L s D).2.1) ((itR2 tx L s D).2.2.1) (nI (itR2 tx L s D).2.2.2.1) ((itR2 tx L s D).2.2.2.2.1) ((itR2 tx L s D).2.2.2.2.2.1) ((itR2 tx L s D).2.2.2.2.2.2.1) (nI (itR2 tx L s D).2.2.2.2.2.2.2.1) ((itR2 tx L s D).2.2.2.2.2.2.2.2.1) ((itR2 tx L s D).2.2.2.2.2.2.2.2.2.1) ((itR2 tx L s D).2.2.2.2.2.2.2.2.2.2) nw od bs) := by
  refine C.of (by decide +kernel) (by simp [Value.category]) (Nat.le_of_ble_eq_true rfl) ?_
  change J g mX7_readItem 6 0 0 _ (W2 pre de we da bo be sg pi ru st wa kn im ik tm to tr tx tn (nI (s).1) (nI (s).2.1) ((s).2.2.1) ((s).2.2.2.1) ((s).2.2.2.2) it (nI D.1) (D.2.1) (nI D.2.2.1) (D.2.2.2.1) (D.2.2.2.2.1) (D.2.2.2.2.2.1) (nI D.2.2.2.2.2.2.1) (D.2.2.2.2.2.2.2.1) (D.2.2.2.2.2.2.2.2.1) (D.2.2.2.2.2.2.2.2.2) nw od bs) 0 [some (.ref 129), none] []
  refine j_aload_n (pc := 0) dX7_readItem_0 rfl ?_
  refine j_getf (pc := 1) dX7_readItem_1 fl_X7_92 (by apply lkE; (with_reducible first | exact lkM_129 hp | exact lkM_133 hp | exact lkM_144 hp | exact lkM_134 hp | exact lkM_130 hp | exact lkM_131 hp | exact lkM_132 hp | exact lkM_135 hp | exact lkM_136 hp | exact lkM_137 hp | exact lkM_138 hp | exact lkM_145 hp | exact lkM_146 hp | exact lkM_139 hp | exact lkM_140 hp | exact lkM_141 hp | exact lkM_142 hp | exact lkM_143 hp); rfl) rfl ?_
  refine j_istore_n (pc := 4) dX7_readItem_4 rfl (Nat.le_of_ble_eq_true rfl) rfl ?_
  refine j_aload_n (pc := 5) dX7_readItem_5 rfl ?_
  refine j_getf (pc := 6) dX7_readItem_6 fl_X7_95 (by apply lkE; (with_reducible first | exact lkM_129 hp | exact lkM_133 hp | exact lkM_144 hp | exact lkM_134 hp | exact lkM_130 hp | exact lkM_131 hp | exact lkM_132 hp | exact lkM_135 hp | exact lkM_136 hp | exact lkM_137 hp | exact lkM_138 hp | exact lkM_145 hp | exact lkM_146 hp | exact lkM_139 hp | exact lkM_140 hp | exact lkM_141 hp | exact lkM_142 hp | exact lkM_143 hp); rfl) rfl ?_
  refine j_iconst (pc := 9) dX7_readItem_9 kc_1 ?_
  refine j_icmp_ne (pc := 10) (tgt := 21) dX7_readItem_10 rfl (fun zc10 => absurd h1 zc10) (fun _ => ?_)
  refine j_aload_n (pc := 13) dX7_readItem_13 rfl ?_
  refine j_iload_n (pc := 14) dX7_readItem_14 rfl ?_
  refine j_v1 (pc := 15) (ci := 7) dX7_readItem_15 mc_X7_mayBegin ml_X7_135 im_X7_mayBegin se_X7_mayBegin rfl rfl (by apply lkE; (with_reducible first | exact lkM_129 hp | exact lkM_133 hp | exact lkM_144 hp | exact lkM_134 hp | exact lkM_130 hp | exact lkM_131 hp | exact lkM_132 hp | exact lkM_135 hp | exact lkM_136 hp | exact lkM_137 hp | exact lkM_138 hp | exact lkM_145 hp | exact lkM_146 hp | exact lkM_139 hp | exact lkM_140 hp | exact lkM_141 hp | exact lkM_142 hp | exact lkM_143 hp); rfl) (by omega) (m_mayBegin hp) (Nat.le_of_ble_eq_true rfl) ?_
  refine j_bne (pc := 18) (tgt := 27) dX7_readItem_18 rfl (fun _ => ?_) (fun zc18 => by cases (hm).symm.trans zc18)
  refine j_aload_n (pc := 27) dX7_readItem_27 rfl ?_
  refine j_v0n (pc := 28) (ci := 7) dX7_readItem_28 mc_X7_next ml_X7_106 im_X7_next se_X7_next rfl rfl (by apply lkE; (with_reducible first | exact lkM_129 hp | exact lkM_133 hp | exact lkM_144 hp | exact lkM_134 hp | exact lkM_130 hp | exact lkM_131 hp | exact lkM_132 hp | exact lkM_135 hp | exact lkM_136 hp | exact lkM_137 hp | exact lkM_138 hp | exact lkM_145 hp | exact lkM_146 hp | exact lkM_139 hp | exact lkM_140 hp | exact lkM_141 hp | exact lkM_142 hp | exact lkM_143 hp); rfl) (by omega) (m_next hp htn hL hx (s := s) hs) (Nat.le_of_ble_eq_true rfl) ?_
  refine j_aload_n (pc := 31) dX7_readItem_31 rfl ?_
  refine j_iload_n (pc := 32) dX7_readItem_32 rfl ?_
  skip
  refine j_v1n (pc := 33) (ci := 7) dX7_readItem_33 mc_X7_readBody ml_X7_138 im_X7_readBody se_X7_readBody rfl rfl (by apply lkE; (with_reducible first | exact lkM_129 hp | exact lkM_133 hp | exact lkM_144 hp | exact lkM_134 hp | exact lkM_130 hp | exact lkM_131 hp | exact lkM_132 hp | exact lkM_135 hp | exact lkM_136 hp | exact lkM_137 hp | exact lkM_138 hp | exact lkM_145 hp | exact lkM_146 hp | exact lkM_139 hp | exact lkM_140 hp | exact lkM_141 hp | exact lkM_142 hp | exact lkM_143 hp); rfl) (by omega) (m_bodyR hp htn hL hx (s := nextM tx L s) (nx_chain (tx := tx) hs).1 n98 n100 n108 n112) (Nat.le_of_ble_eq_true rfl) ?_
  have z := nx_chain (tx := tx) hs
  exact m_close hp htn hL hx (s := tnS tx L 0 9 (nextM tx L s)) (tn_chain z.1 z.2).1 ⟨rfl, rfl⟩

set_option maxRecDepth 20000 in
set_option maxHeartbeats 200000 in
theorem m_itemX (hp : pre.length = 129) {s : MSt} {D : SD} (hb : ¬ (s.2.2.1 = 1 ∧ mbD s.2.2.2.1 D = true)) : CD g 6 mX7_readItem [.ref 129] (W2 pre de we da bo be sg pi ru st wa kn im ik tm to tr tx tn (nI (s).1) (nI (s).2.1) ((s).2.2.1) ((s).2.2.2.1) ((s).2.2.2.2) it (nI D.1) (D.2.1) (nI D.2.2.1) (D.2.2.2.1) (D.2.2.2.2.1) (D.2.2.2.2.2.1) (nI D.2.2.2.2.2.2.1) (D.2.2.2.2.2.2.2.1) (D.2.2.2.2.2.2.2.2.1) (D.2.2.2.2.2.2.2.2.2) nw od bs) none (W2 pre de we da bo be sg pi ru st wa kn im ik tm to tr tx tn (nI (wrM s).1) (nI (wrM s).2.1) ((wrM s).2.2.1) ((wrM s).2.2.2.1) ((wrM s).2.2.2.2) it (nI D.1) (D.2.1) (nI D.2.2.1) (D.2.2.2.1) (D.2.2.2.2.1) (D.2.2.2.2.2.1) (nI D.2.2.2.2.2.2.1) (D.2.2.2.2.2.2.2.1) (D.2.2.2.2.2.2.2.2.1) (D.2.2.2.2.2.2.2.2.2) nw od bs) := by
  refine C.of (by decide +kernel) (by simp [Value.category]) (Nat.le_of_ble_eq_true rfl) ?_
  change J g mX7_readItem 6 0 0 _ (W2 pre de we da bo be sg pi ru st wa kn im ik tm to tr tx tn (nI (s).1) (nI (s).2.1) ((s).2.2.1) ((s).2.2.2.1) ((s).2.2.2.2) it (nI D.1) (D.2.1) (nI D.2.2.1) (D.2.2.2.1) (D.2.2.2.2.1) (D.2.2.2.2.2.1) (nI D.2.2.2.2.2.2.1) (D.2.2.2.2.2.2.2.1) (D.2.2.2.2.2.2.2.2.1) (D.2.2.2.2.2.2.2.2.2) nw od bs) 0 [some (.ref 129), none] []
  refine j_aload_n (pc := 0) dX7_readItem_0 rfl ?_
  refine j_getf (pc := 1) dX7_readItem_1 fl_X7_92 (by apply lkE; (with_reducible first | exact lkM_129 hp | exact lkM_133 hp | exact lkM_144 hp | exact lkM_134 hp | exact lkM_130 hp | exact lkM_131 hp | exact lkM_132 hp | exact lkM_135 hp | exact lkM_136 hp | exact lkM_137 hp | exact lkM_138 hp | exact lkM_145 hp | exact lkM_146 hp | exact lkM_139 hp | exact lkM_140 hp | exact lkM_141 hp | exact lkM_142 hp | exact lkM_143 hp); rfl) rfl ?_
  refine j_istore_n (pc := 4) dX7_readItem_4 rfl (Nat.le_of_ble_eq_true rfl) rfl ?_
  refine j_aload_n (pc := 5) dX7_readItem_5 rfl ?_
  refine j_getf (pc := 6) dX7_readItem_6 fl_X7_95 (by apply lkE; (with_reducible first | exact lkM_129 hp | exact lkM_133 hp | exact lkM_144 hp | exact lkM_134 hp | exact lkM_130 hp | exact lkM_131 hp | exact lkM_132 hp | exact lkM_135 hp | exact lkM_136 hp | exact lkM_137 hp | exact lkM_138 hp | exact lkM_145 hp | exact lkM_146 hp | exact lkM_139 hp | exact lkM_140 hp | exact lkM_141 hp | exact lkM_142 hp | exact lkM_143 hp); rfl) rfl ?_
  refine j_iconst (pc := 9) dX7_readItem_9 kc_1 ?_
  refine j_icmp_ne (pc := 10) (tgt := 21) dX7_readItem_10 rfl (fun zc10 => ?_) (fun zc10 => ?_)
  · refine j_aload_n (pc := 21) dX7_readItem_21 rfl ?_
    refine j_iconst (pc := 22) dX7_readItem_22 kc_1 ?_
    refine j_putf (pc := 23) dX7_readItem_23 fl_X7_102 (jfit_z true) (by apply lkE; (with_reducible first | exact lkM_129 hp | exact lkM_133 hp | exact lkM_144 hp | exact lkM_134 hp | exact lkM_130 hp | exact lkM_131 hp | exact lkM_132 hp | exact lkM_135 hp | exact lkM_136 hp | exact lkM_137 hp | exact lkM_138 hp | exact lkM_145 hp | exact lkM_146 hp | exact lkM_139 hp | exact lkM_140 hp | exact lkM_141 hp | exact lkM_142 hp | exact lkM_143 hp); rfl) (upM_129 (wr2 := true) hp) ?_
    refine j_return (pc := 26) dX7_readItem_26 rfl ?_
    exact ⟨rfl, rfl⟩
  · refine j_aload_n (pc := 13) dX7_readItem_13 rfl ?_
    refine j_iload_n (pc := 14) dX7_readItem_14 rfl ?_
    refine j_v1 (pc := 15) (ci := 7) dX7_readItem_15 mc_X7_mayBegin ml_X7_135 im_X7_mayBegin se_X7_mayBegin rfl rfl (by apply lkE; (with_reducible first | exact lkM_129 hp | exact lkM_133 hp | exact lkM_144 hp | exact lkM_134 hp | exact lkM_130 hp | exact lkM_131 hp | exact lkM_132 hp | exact lkM_135 hp | exact lkM_136 hp | exact lkM_137 hp | exact lkM_138 hp | exact lkM_145 hp | exact lkM_146 hp | exact lkM_139 hp | exact lkM_140 hp | exact lkM_141 hp | exact lkM_142 hp | exact lkM_143 hp); rfl) (by omega) (m_mayBegin hp) (Nat.le_of_ble_eq_true rfl) ?_
    refine j_bne (pc := 18) (tgt := 27) dX7_readItem_18 rfl (fun zc18 => ?_) (fun zc18 => ?_)
    · exact absurd ⟨zc10, zc18⟩ hb
    · refine j_aload_n (pc := 21) dX7_readItem_21 rfl ?_
      refine j_iconst (pc := 22) dX7_readItem_22 kc_1 ?_
      refine j_putf (pc := 23) dX7_readItem_23 fl_X7_102 (jfit_z true) (by apply lkE; (with_reducible first | exact lkM_129 hp | exact lkM_133 hp | exact lkM_144 hp | exact lkM_134 hp | exact lkM_130 hp | exact lkM_131 hp | exact lkM_132 hp | exact lkM_135 hp | exact lkM_136 hp | exact lkM_137 hp | exact lkM_138 hp | exact lkM_145 hp | exact lkM_146 hp | exact lkM_139 hp | exact lkM_140 hp | exact lkM_141 hp | exact lkM_142 hp | exact lkM_143 hp); rfl) (upM_129 (wr2 := true) hp) ?_
      refine j_return (pc := 26) dX7_readItem_26 rfl ?_
      exact ⟨rfl, rfl⟩

theorem m_item (hp : pre.length = 129) {L : Nat} (htn : tn = nI L) (hL : L ≤ 150) (hx : ∀ k, k < L → 0 ≤ tx k) {s : MSt} {D : SD} (hs : s.1 ≤ L) (hd : dOk D) : CD g 6 mX7_readItem [.ref 129] (W2 pre de we da bo be sg pi ru st wa kn im ik tm to tr tx tn (nI (s).1) (nI (s).2.1) ((s).2.2.1) ((s).2.2.2.1) ((s).2.2.2.2) it (nI D.1) (D.2.1) (nI D.2.2.1) (D.2.2.2.1) (D.2.2.2.2.1) (D.2.2.2.2.2.1) (nI D.2.2.2.2.2.2.1) (D.2.2.2.2.2.2.2.1) (D.2.2.2.2.2.2.2.2.1) (D.2.2.2.2.2.2.2.2.2) nw od bs) none (W2 pre de we da bo be sg pi ru st wa kn im ik tm to tr tx tn (nI ((itM tx L s D).1).1) (nI ((itM tx L s D).1).2.1) (((itM tx L s D).1).2.2.1) (((itM tx L s D).1).2.2.2.1) (((itM tx L s D).1).2.2.2.2) it (nI (itM tx L s D).2.1) ((itM tx L s D).2.2.1) (nI (itM tx L s D).2.2.2.1) ((itM tx L s D).2.2.2.2.1) ((itM tx L s D).2.2.2.2.2.1) ((itM tx L s D).2.2.2.2.2.2.1) (nI (itM tx L s D).2.2.2.2.2.2.2.1) ((itM tx L s D).2.2.2.2.2.2.2.2.1) ((itM tx L s D).2.2.2.2.2.2.2.2.2.1) ((itM tx L s D).2.2.2.2.2.2.2.2.2.2) nw od bs) := by
  by_cases hb : s.2.2.1 = 1 ∧ mbD s.2.2.2.1 D = true
  · by_cases c1 : s.2.2.2.1 = 98
    · rw [itM, if_pos hb, if_pos c1]
      exact m_item98 hp htn hL hx hs hd hb.1 hb.2 c1
    · by_cases c2 : s.2.2.2.1 = 100
      · rw [itM, if_pos hb, if_neg c1, if_pos c2]
        exact m_item100 hp htn hL hx hs hd hb.1 hb.2 c2
      · by_cases c3 : s.2.2.2.1 = 108
        · rw [itM, if_pos hb, if_neg c1, if_neg c2, if_pos c3]
          exact m_item108 hp htn hL hx hs hd hb.1 hb.2 c3
        · by_cases c4 : s.2.2.2.1 = 112
          · rw [itM, if_pos hb, if_neg c1, if_neg c2, if_neg c3, if_pos c4]
            exact m_item112 hp htn hL hx hs hd hb.1 hb.2 c4
          · rw [itM, if_pos hb, if_neg c1, if_neg c2, if_neg c3, if_neg c4]
            exact m_itemR hp htn hL hx hs hd hb.1 hb.2 c1 c2 c3 c4
  · rw [itM, if_neg hb]
    exact m_itemX hp hb
end

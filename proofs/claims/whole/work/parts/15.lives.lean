/-! lives, bearers, odds, kinds -/
section
variable {g : GG} {h : List AC} {Q : Option Value → List AC → Prop} {scr : AC} {tl : List AC} {lt : Fn} {lc : Int32} {rd : RdV} {sw : Bool} {P : ParV} {D : ParV} {S : ScV} {kk : Int32} {nx : Int32} {ring : Nat → ScV} {bu : Fn} {im : Nat → ScV} {kept : Int32} {tb : Fn} {tr : Fn} {tc : Int32} {ts : Int64}
def popN (k : Nat) : Nat := k % 2 + k / 2 % 2 + k / 4 % 2 + k / 8 % 2 + k / 16 % 2 + k / 32 % 2
theorem bcI_nI {k : Nat} (h : k < 64) : bcI (nI k) = nI (popN k) := by
  have : ∀ k, k < 64 → bcI (nI k) = nI (popN k) := by decide +kernel
  exact this k h
theorem popN_le {n k : Nat} (hn : n ≤ 6) (h : k < 2 ^ n) : popN k ≤ n := by
  have : ∀ n, n < 7 → ∀ k, k < 2 ^ n → popN k ≤ n := by decide +kernel
  exact this n (by omega) k h
def lifeStep (P : ParV) (s dn : Int32) (k : Nat) (a : Int32 × Int32) : Int32 × Int32 :=
  if nI k &&& dn = 0 then (if s < sumI P.2.2.2.2.2.2.1 (nI k ||| dn) 6 0 0 then a else if a.2 ≤ bcI (nI k) then a else (nI k, bcI (nI k))) else a
def lifeI (P : ParV) (S : ScV) (ne : Nat) (l s : Int32) : Int32 := (iter (lifeStep P s (rAt 6 S.2.2.2.2.1 l)) (2 ^ ne) 0 (-9, 7)).1
set_option maxRecDepth 20000 in
set_option maxHeartbeats 1000000 in
theorem xl_life {l s dn : Int32} {ne : Nat} (hde : P.2.1 = nI ne) (hne : ne ≤ 6) : ∀ (m k : Nat) (a : Int32) (b : Int32), k + m = 2 ^ ne → Q (some (.int (iter (lifeStep P s dn) m k (a, b)).1)) (W1 scr tl lt lc rd sw P D S kk nx ring bu im kept tb tr tc ts) → J g mX6_life 3 0 0 Q (W1 scr tl lt lc rd sw P D S kk nx ring bu im kept tb tr tc ts) 47 [some (.ref 1), some (.int l), some (.int s), some (.int dn), some (.int a), some (.int b), some (.int (nI k)), none] [] := by
  have two := two_le hne
  intro m
  induction m with
  | zero =>
    intro k a b hk hq
    refine j_iload (pc := 47) dX6_life_47 rfl ?_
    refine j_aload_n (pc := 49) dX6_life_49 rfl ?_
    refine j_getf (pc := 50) dX6_life_50 fl_X6_30 (by apply lkE; (with_reducible first | exact lkX_1 | exact lkX_27 | exact lkX_p | exact lkX_34 | exact lkX_35 | exact lkX_107 | exact lkX_125 | exact lkX_127 | exact lkX_28 | exact lkX_30 | exact lkX_32 | exact lkX_p1 | exact lkX_p3 | exact lkX_p5 | exact lkX_p7 | exact lkX_p9 | exact lkX_2 | exact lkX_109 | exact lkX_4 | exact lkX_d); rfl) rfl ?_
    refine j_getf (pc := 53) dX6_life_53 fl_X6_214 (by apply lkE; (with_reducible first | exact lkX_1 | exact lkX_27 | exact lkX_p | exact lkX_34 | exact lkX_35 | exact lkX_107 | exact lkX_125 | exact lkX_127 | exact lkX_28 | exact lkX_30 | exact lkX_32 | exact lkX_p1 | exact lkX_p3 | exact lkX_p5 | exact lkX_p7 | exact lkX_p9 | exact lkX_2 | exact lkX_109 | exact lkX_4 | exact lkX_d); rfl) rfl ?_
    refine j_s1 (pc := 56) dX6_life_56 mc_X6_allOf ml_X6_195 sm_X6_allOf (by omega) (c_allOf) (Nat.le_of_ble_eq_true rfl) ?_
    refine j_icmp_gt (pc := 59) (tgt := 126) dX6_life_59 rfl (fun _ => ?_) (fun zc59 => absurd (by rw [hde, allI_nI hne]; exact nI_lt (by omega) (by omega)) zc59)
    refine j_iload (pc := 126) dX6_life_126 rfl ?_
    refine j_ireturn (pc := 128) dX6_life_128 rfl ?_
    exact hq
  | succ m ih =>
    intro k a b hk hq
    refine j_iload (pc := 47) dX6_life_47 rfl ?_
    refine j_aload_n (pc := 49) dX6_life_49 rfl ?_
    refine j_getf (pc := 50) dX6_life_50 fl_X6_30 (by apply lkE; (with_reducible first | exact lkX_1 | exact lkX_27 | exact lkX_p | exact lkX_34 | exact lkX_35 | exact lkX_107 | exact lkX_125 | exact lkX_127 | exact lkX_28 | exact lkX_30 | exact lkX_32 | exact lkX_p1 | exact lkX_p3 | exact lkX_p5 | exact lkX_p7 | exact lkX_p9 | exact lkX_2 | exact lkX_109 | exact lkX_4 | exact lkX_d); rfl) rfl ?_
    refine j_getf (pc := 53) dX6_life_53 fl_X6_214 (by apply lkE; (with_reducible first | exact lkX_1 | exact lkX_27 | exact lkX_p | exact lkX_34 | exact lkX_35 | exact lkX_107 | exact lkX_125 | exact lkX_127 | exact lkX_28 | exact lkX_30 | exact lkX_32 | exact lkX_p1 | exact lkX_p3 | exact lkX_p5 | exact lkX_p7 | exact lkX_p9 | exact lkX_2 | exact lkX_109 | exact lkX_4 | exact lkX_d); rfl) rfl ?_
    refine j_s1 (pc := 56) dX6_life_56 mc_X6_allOf ml_X6_195 sm_X6_allOf (by omega) (c_allOf) (Nat.le_of_ble_eq_true rfl) ?_
    refine j_icmp_gt (pc := 59) (tgt := 126) dX6_life_59 rfl (fun zc59 => absurd zc59 (by rw [hde, allI_nI hne]; exact nI_nlt (by omega) (by omega))) (fun _ => ?_)
    refine j_iload (pc := 62) dX6_life_62 rfl ?_
    refine j_iload_n (pc := 64) dX6_life_64 rfl ?_
    refine j_iand (pc := 65) dX6_life_65 ?_
    refine j_if_ne (pc := 66) (tgt := 91) dX6_life_66 rfl (fun zc66 => ?_) (fun zc66 => ?_)
    · refine j_iconst (pc := 91) dX6_life_91 kc_0 ?_
      refine j_istore (pc := 92) dX6_life_92 (Nat.le_of_ble_eq_true rfl) rfl ?_
      refine j_iload (pc := 94) dX6_life_94 rfl ?_
      refine j_if_eq (pc := 96) (tgt := 120) dX6_life_96 rfl (fun _ => ?_) (fun zc96 => absurd (show (0 : Int32) = 0 by decide) zc96)
      refine j_iinc (pc := 120) dX6_life_120 rfl rfl (Nat.le_of_ble_eq_true rfl) rfl ?_
      refine j_goto (pc := 123) (tgt := 47) dX6_life_123 rfl ?_
      rw [nI_s]
      refine j_weak (ls' := [some _, some _, some _, some _, some _, some _, some _, none]) ⟨rfl, rfl, rfl, rfl, rfl, rfl, rfl, trivial⟩ ?_
      refine ih (k + 1) _ _ (by omega) ?_
      first
        | simpa [iter, lifeStep, *] using hq
        | (simp only [iter, lifeStep, *, ↓reduceIte, not_false_eq_true, Bool.false_eq_true] at hq; exact hq)
    · refine j_aload_n (pc := 69) dX6_life_69 rfl ?_
      refine j_getf (pc := 70) dX6_life_70 fl_X6_30 (by apply lkE; (with_reducible first | exact lkX_1 | exact lkX_27 | exact lkX_p | exact lkX_34 | exact lkX_35 | exact lkX_107 | exact lkX_125 | exact lkX_127 | exact lkX_28 | exact lkX_30 | exact lkX_32 | exact lkX_p1 | exact lkX_p3 | exact lkX_p5 | exact lkX_p7 | exact lkX_p9 | exact lkX_2 | exact lkX_109 | exact lkX_4 | exact lkX_d); rfl) rfl ?_
      refine j_getf (pc := 73) dX6_life_73 fl_X6_104 (by apply lkE; (with_reducible first | exact lkX_1 | exact lkX_27 | exact lkX_p | exact lkX_34 | exact lkX_35 | exact lkX_107 | exact lkX_125 | exact lkX_127 | exact lkX_28 | exact lkX_30 | exact lkX_32 | exact lkX_p1 | exact lkX_p3 | exact lkX_p5 | exact lkX_p7 | exact lkX_p9 | exact lkX_2 | exact lkX_109 | exact lkX_4 | exact lkX_d); rfl) rfl ?_
      refine j_iload (pc := 76) dX6_life_76 rfl ?_
      refine j_iload_n (pc := 78) dX6_life_78 rfl ?_
      refine j_ior (pc := 79) dX6_life_79 ?_
      refine j_v1 (pc := 80) (ci := 3) dX6_life_80 mc_X3_sumOf ml_X6_126 im_X3_sumOf se_X3_sumOf rfl rfl (by apply lkE; (with_reducible first | exact lkX_1 | exact lkX_27 | exact lkX_p | exact lkX_34 | exact lkX_35 | exact lkX_107 | exact lkX_125 | exact lkX_127 | exact lkX_28 | exact lkX_30 | exact lkX_32 | exact lkX_p1 | exact lkX_p3 | exact lkX_p5 | exact lkX_p7 | exact lkX_p9 | exact lkX_2 | exact lkX_109 | exact lkX_4 | exact lkX_d); rfl) (by omega) (c_sumOf (by apply lkE; (with_reducible first | exact lkX_p1 | exact lkX_p9); rfl) (by apply lkE; (with_reducible first | exact lkX_p2 | exact lkX_p10); rfl)) (Nat.le_of_ble_eq_true rfl) ?_
      refine j_iload_n (pc := 83) dX6_life_83 rfl ?_
      refine j_icmp_gt (pc := 84) (tgt := 91) dX6_life_84 rfl (fun zc84 => ?_) (fun zc84 => ?_)
      · refine j_iconst (pc := 91) dX6_life_91 kc_0 ?_
        refine j_istore (pc := 92) dX6_life_92 (Nat.le_of_ble_eq_true rfl) rfl ?_
        refine j_iload (pc := 94) dX6_life_94 rfl ?_
        refine j_if_eq (pc := 96) (tgt := 120) dX6_life_96 rfl (fun _ => ?_) (fun zc96 => absurd (show (0 : Int32) = 0 by decide) zc96)
        refine j_iinc (pc := 120) dX6_life_120 rfl rfl (Nat.le_of_ble_eq_true rfl) rfl ?_
        refine j_goto (pc := 123) (tgt := 47) dX6_life_123 rfl ?_
        rw [nI_s]
        refine j_weak (ls' := [some _, some _, some _, some _, some _, some _, some _, none]) ⟨rfl, rfl, rfl, rfl, rfl, rfl, rfl, trivial⟩ ?_
        refine ih (k + 1) _ _ (by omega) ?_
        first
          | simpa [iter, lifeStep, *] using hq
          | (simp only [iter, lifeStep, *, ↓reduceIte, not_false_eq_true, Bool.false_eq_true] at hq; exact hq)
      · refine j_iconst (pc := 87) dX6_life_87 kc_1 ?_
        refine j_goto (pc := 88) (tgt := 92) dX6_life_88 rfl ?_
        refine j_istore (pc := 92) dX6_life_92 (Nat.le_of_ble_eq_true rfl) rfl ?_
        refine j_iload (pc := 94) dX6_life_94 rfl ?_
        refine j_if_eq (pc := 96) (tgt := 120) dX6_life_96 rfl (fun zc96 => absurd zc96 (show ¬ (1 : Int32) = 0 by decide)) (fun _ => ?_)
        refine j_iload (pc := 99) dX6_life_99 rfl ?_
        refine j_s1 (pc := 101) dX6_life_101 mc_J6_bitCount_0f7a4 ml_X6_181 sm_J6_bitCount_0f7a4 (by omega) (c_bitCount) (Nat.le_of_ble_eq_true rfl) ?_
        refine j_iload (pc := 104) dX6_life_104 rfl ?_
        refine j_icmp_ge (pc := 106) (tgt := 120) dX6_life_106 rfl (fun zc106 => ?_) (fun zc106 => ?_)
        · refine j_iinc (pc := 120) dX6_life_120 rfl rfl (Nat.le_of_ble_eq_true rfl) rfl ?_
          refine j_goto (pc := 123) (tgt := 47) dX6_life_123 rfl ?_
          rw [nI_s]
          refine j_weak (ls' := [some _, some _, some _, some _, some _, some _, some _, none]) ⟨rfl, rfl, rfl, rfl, rfl, rfl, rfl, trivial⟩ ?_
          refine ih (k + 1) _ _ (by omega) ?_
          first
            | simpa [iter, lifeStep, *] using hq
            | (simp only [iter, lifeStep, *, ↓reduceIte, not_false_eq_true, Bool.false_eq_true] at hq; exact hq)
        · refine j_iload (pc := 109) dX6_life_109 rfl ?_
          refine j_s1 (pc := 111) dX6_life_111 mc_J6_bitCount_0f7a4 ml_X6_181 sm_J6_bitCount_0f7a4 (by omega) (c_bitCount) (Nat.le_of_ble_eq_true rfl) ?_
          refine j_istore (pc := 114) dX6_life_114 (Nat.le_of_ble_eq_true rfl) rfl ?_
          refine j_iload (pc := 116) dX6_life_116 rfl ?_
          refine j_istore (pc := 118) dX6_life_118 (Nat.le_of_ble_eq_true rfl) rfl ?_
          refine j_iinc (pc := 120) dX6_life_120 rfl rfl (Nat.le_of_ble_eq_true rfl) rfl ?_
          refine j_goto (pc := 123) (tgt := 47) dX6_life_123 rfl ?_
          rw [nI_s]
          refine j_weak (ls' := [some _, some _, some _, some _, some _, some _, some _, none]) ⟨rfl, rfl, rfl, rfl, rfl, rfl, rfl, trivial⟩ ?_
          refine ih (k + 1) _ _ (by omega) ?_
          first
            | simpa [iter, lifeStep, *] using hq
            | (simp only [iter, lifeStep, *, ↓reduceIte, not_false_eq_true, Bool.false_eq_true] at hq; exact hq)

set_option maxRecDepth 20000 in
set_option maxHeartbeats 1000000 in
theorem x_life {l s : Int32} {ne : Nat} (hde : P.2.1 = nI ne) (hne : ne ≤ 6) (h1 : (jlt l P.2.2.1 && jin s (-99) 99) = false → Q (some (.int (-1))) (W1 scr tl lt lc rd sw P D S kk nx ring bu im kept tb tr tc ts)) (h2 : jlt l P.2.2.1 = true → jin s (-99) 99 = true → Q (some (.int (lifeI P S ne l s))) (W1 scr tl lt lc rd sw P D S kk nx ring bu im kept tb tr tc ts)) : C g 3 0 0 mX6_life [.ref 1, .int l, .int s] (W1 scr tl lt lc rd sw P D S kk nx ring bu im kept tb tr tc ts) Q := by
  refine C.of (by decide +kernel) (by simp [Value.category]) (Nat.le_of_ble_eq_true rfl) ?_
  change J g mX6_life 3 0 0 _ (W1 scr tl lt lc rd sw P D S kk nx ring bu im kept tb tr tc ts) 0 [some (.ref 1), some (.int l), some (.int s), none, none, none, none, none] []
  refine j_aload_n (pc := 0) dX6_life_0 rfl ?_
  refine j_getf (pc := 1) dX6_life_1 fl_X6_30 (by apply lkE; (with_reducible first | exact lkX_1 | exact lkX_27 | exact lkX_p | exact lkX_34 | exact lkX_35 | exact lkX_107 | exact lkX_125 | exact lkX_127 | exact lkX_28 | exact lkX_30 | exact lkX_32 | exact lkX_p1 | exact lkX_p3 | exact lkX_p5 | exact lkX_p7 | exact lkX_p9 | exact lkX_2 | exact lkX_109 | exact lkX_4 | exact lkX_d); rfl) rfl ?_
  refine j_iload_n (pc := 4) dX6_life_4 rfl ?_
  refine j_v1 (pc := 5) (ci := 1) dX6_life_5 mc_X1_hasDead ml_X6_114 im_X1_hasDead se_X1_hasDead rfl rfl (by apply lkE; (with_reducible first | exact lkX_1 | exact lkX_27 | exact lkX_p | exact lkX_34 | exact lkX_35 | exact lkX_107 | exact lkX_125 | exact lkX_127 | exact lkX_28 | exact lkX_30 | exact lkX_32 | exact lkX_p1 | exact lkX_p3 | exact lkX_p5 | exact lkX_p7 | exact lkX_p9 | exact lkX_2 | exact lkX_109 | exact lkX_4 | exact lkX_d); rfl) (by omega) (c_hasDead (by apply lkE; (with_reducible first | exact lkX_p); rfl)) (Nat.le_of_ble_eq_true rfl) ?_
  refine j_beq (pc := 8) (tgt := 22) dX6_life_8 rfl (fun zc8 => ?_) (fun zc8 => ?_)
  · refine j_iconst (pc := 22) dX6_life_22 kc_m1 ?_
    refine j_ireturn (pc := 23) dX6_life_23 rfl ?_
    exact h1 (by simp [*])
  · refine j_iload_n (pc := 11) dX6_life_11 rfl ?_
    refine j_bipush (pc := 12) dX6_life_12 kb_m99 ?_
    refine j_bipush (pc := 14) dX6_life_14 kb_99 ?_
    refine j_s3 (pc := 16) dX6_life_16 mc_X6_isWithin ml_X6_71 sm_X6_isWithin (by omega) (c_isWithin) (Nat.le_of_ble_eq_true rfl) ?_
    refine j_bne (pc := 19) (tgt := 24) dX6_life_19 rfl (fun zc19 => ?_) (fun zc19 => ?_)
    · refine j_aload_n (pc := 24) dX6_life_24 rfl ?_
      refine j_getf (pc := 25) dX6_life_25 fl_X6_40 (by apply lkE; (with_reducible first | exact lkX_1 | exact lkX_27 | exact lkX_p | exact lkX_34 | exact lkX_35 | exact lkX_107 | exact lkX_125 | exact lkX_127 | exact lkX_28 | exact lkX_30 | exact lkX_32 | exact lkX_p1 | exact lkX_p3 | exact lkX_p5 | exact lkX_p7 | exact lkX_p9 | exact lkX_2 | exact lkX_109 | exact lkX_4 | exact lkX_d); rfl) rfl ?_
      refine j_getf (pc := 28) dX6_life_28 fl_X6_123 (by apply lkE; (with_reducible first | exact lkX_1 | exact lkX_27 | exact lkX_p | exact lkX_34 | exact lkX_35 | exact lkX_107 | exact lkX_125 | exact lkX_127 | exact lkX_28 | exact lkX_30 | exact lkX_32 | exact lkX_p1 | exact lkX_p3 | exact lkX_p5 | exact lkX_p7 | exact lkX_p9 | exact lkX_2 | exact lkX_109 | exact lkX_4 | exact lkX_d); rfl) rfl ?_
      refine j_iload_n (pc := 31) dX6_life_31 rfl ?_
      refine j_v1 (pc := 32) (ci := 3) dX6_life_32 mc_X3_at ml_X6_107 im_X3_at se_X3_at rfl rfl (by apply lkE; (with_reducible first | exact lkX_1 | exact lkX_27 | exact lkX_p | exact lkX_34 | exact lkX_35 | exact lkX_107 | exact lkX_125 | exact lkX_127 | exact lkX_28 | exact lkX_30 | exact lkX_32 | exact lkX_p1 | exact lkX_p3 | exact lkX_p5 | exact lkX_p7 | exact lkX_p9 | exact lkX_2 | exact lkX_109 | exact lkX_4 | exact lkX_d); rfl) (by omega) (c_at (n := 6) (by decide) (by apply lkE; (with_reducible first | exact lkX_p3 | exact lkX_28 | exact lkX_30 | exact lkX_32 | exact lkX_107 | exact lkX_125 | exact lkX_127); rfl) (by apply lkE; (with_reducible first | exact lkX_p4 | exact lkX_29 | exact lkX_31 | exact lkX_33 | exact lkX_108 | exact lkX_126 | exact lkX_128); rfl)) (Nat.le_of_ble_eq_true rfl) ?_
      refine j_istore_n (pc := 35) dX6_life_35 rfl (Nat.le_of_ble_eq_true rfl) rfl ?_
      refine j_bipush (pc := 36) dX6_life_36 kb_m9 ?_
      refine j_istore (pc := 38) dX6_life_38 (Nat.le_of_ble_eq_true rfl) rfl ?_
      refine j_bipush (pc := 40) dX6_life_40 kb_7 ?_
      refine j_istore (pc := 42) dX6_life_42 (Nat.le_of_ble_eq_true rfl) rfl ?_
      refine j_iconst (pc := 44) dX6_life_44 kc_0 ?_
      refine j_istore (pc := 45) dX6_life_45 (Nat.le_of_ble_eq_true rfl) rfl ?_
      exact xl_life hde hne (2 ^ ne) 0 (-9) 7 (by omega) (h2 zc8 zc19)
    · refine j_iconst (pc := 22) dX6_life_22 kc_m1 ?_
      refine j_ireturn (pc := 23) dX6_life_23 rfl ?_
      exact h1 (by simp [*])

def unI (P : ParV) (w : Int32) : Int32 := iabs (sumI P.2.2.2.2.2.2.2.2.2.2 (w &&& allI 6) 6 0 0 - sumI P.2.2.2.2.2.2.2.2.2.2 ((w >>> (6 &&& 31)) &&& ((w &&& allI 6) ^^^ -1)) 6 0 0)
def ibI (P : ParV) (v w : Int32) : Bool := if unI P v = unI P w then decide (¬ sumI P.2.2.2.2.2.2.2.2.2.2 (w >>> (6 &&& 31)) 6 0 0 ≤ sumI P.2.2.2.2.2.2.2.2.2.2 (v >>> (6 &&& 31)) 6 0 0) else decide (¬ unI P w ≤ unI P v)
def wyI (f l : Int32) : Int32 := (f <<< (6 &&& 31)) ||| l
def bwStep (P : ParV) (f : Int32) (k : Nat) (a : Int32) : Int32 :=
  if nI k &&& (f ^^^ -1) = 0 then (if bcI (nI k) = 2 then (if a = -9 then wyI f (nI k) else if ibI P (wyI f (nI k)) a then wyI f (nI k) else a) else a) else a
def beStep (P : ParV) (w : Int32) (k : Nat) (a : Int32) : Int32 :=
  if bcI (nI k) = 4 then (if sumI P.2.2.2.2.2.2.2.2.2.2 (nI k) 6 0 0 < w then a else iter (bwStep P (nI k)) k 0 a) else a
def bestI (P : ParV) (nb : Nat) (w : Int32) : Int32 := iter (beStep P w) (2 ^ nb) 0 (-9)
set_option maxRecDepth 20000 in
set_option maxHeartbeats 1000000 in
theorem x_uneven {w : Int32} : CD g 2 mX6_unevenness [.ref 1, .int w] (W1 scr tl lt lc rd sw P D S kk nx ring bu im kept tb tr tc ts) (some (.int (unI P w))) (W1 scr tl lt lc rd sw P D S kk nx ring bu im kept tb tr tc ts) := by
  refine C.of (by decide +kernel) (by simp [Value.category]) (Nat.le_of_ble_eq_true rfl) ?_
  change J g mX6_unevenness 2 0 0 _ (W1 scr tl lt lc rd sw P D S kk nx ring bu im kept tb tr tc ts) 0 [some (.ref 1), some (.int w), none, none] []
  refine j_iload_n (pc := 0) dX6_unevenness_0 rfl ?_
  refine j_s1 (pc := 1) dX6_unevenness_1 mc_X6_leftOf ml_X6_228 sm_X6_leftOf (by omega) (c_leftOf) (Nat.le_of_ble_eq_true rfl) ?_
  refine j_istore_n (pc := 4) dX6_unevenness_4 rfl (Nat.le_of_ble_eq_true rfl) rfl ?_
  refine j_iload_n (pc := 5) dX6_unevenness_5 rfl ?_
  refine j_s1 (pc := 6) dX6_unevenness_6 mc_X6_fourOf ml_X6_225 sm_X6_fourOf (by omega) (c_fourOf) (Nat.le_of_ble_eq_true rfl) ?_
  refine j_iload_n (pc := 9) dX6_unevenness_9 rfl ?_
  refine j_iconst (pc := 10) dX6_unevenness_10 kc_m1 ?_
  refine j_ixor (pc := 11) dX6_unevenness_11 ?_
  refine j_iand (pc := 12) dX6_unevenness_12 ?_
  refine j_istore_n (pc := 13) dX6_unevenness_13 rfl (Nat.le_of_ble_eq_true rfl) rfl ?_
  refine j_aload_n (pc := 14) dX6_unevenness_14 rfl ?_
  refine j_getf (pc := 15) dX6_unevenness_15 fl_X6_30 (by apply lkE; (with_reducible first | exact lkX_1 | exact lkX_27 | exact lkX_p | exact lkX_34 | exact lkX_35 | exact lkX_107 | exact lkX_125 | exact lkX_127 | exact lkX_28 | exact lkX_30 | exact lkX_32 | exact lkX_p1 | exact lkX_p3 | exact lkX_p5 | exact lkX_p7 | exact lkX_p9 | exact lkX_2 | exact lkX_109 | exact lkX_4 | exact lkX_d); rfl) rfl ?_
  refine j_getf (pc := 18) dX6_unevenness_18 fl_X6_144 (by apply lkE; (with_reducible first | exact lkX_1 | exact lkX_27 | exact lkX_p | exact lkX_34 | exact lkX_35 | exact lkX_107 | exact lkX_125 | exact lkX_127 | exact lkX_28 | exact lkX_30 | exact lkX_32 | exact lkX_p1 | exact lkX_p3 | exact lkX_p5 | exact lkX_p7 | exact lkX_p9 | exact lkX_2 | exact lkX_109 | exact lkX_4 | exact lkX_d); rfl) rfl ?_
  refine j_iload_n (pc := 21) dX6_unevenness_21 rfl ?_
  refine j_v1 (pc := 22) (ci := 3) dX6_unevenness_22 mc_X3_sumOf ml_X6_126 im_X3_sumOf se_X3_sumOf rfl rfl (by apply lkE; (with_reducible first | exact lkX_1 | exact lkX_27 | exact lkX_p | exact lkX_34 | exact lkX_35 | exact lkX_107 | exact lkX_125 | exact lkX_127 | exact lkX_28 | exact lkX_30 | exact lkX_32 | exact lkX_p1 | exact lkX_p3 | exact lkX_p5 | exact lkX_p7 | exact lkX_p9 | exact lkX_2 | exact lkX_109 | exact lkX_4 | exact lkX_d); rfl) (by omega) (c_sumOf (by apply lkE; (with_reducible first | exact lkX_p1 | exact lkX_p9); rfl) (by apply lkE; (with_reducible first | exact lkX_p2 | exact lkX_p10); rfl)) (Nat.le_of_ble_eq_true rfl) ?_
  refine j_aload_n (pc := 25) dX6_unevenness_25 rfl ?_
  refine j_getf (pc := 26) dX6_unevenness_26 fl_X6_30 (by apply lkE; (with_reducible first | exact lkX_1 | exact lkX_27 | exact lkX_p | exact lkX_34 | exact lkX_35 | exact lkX_107 | exact lkX_125 | exact lkX_127 | exact lkX_28 | exact lkX_30 | exact lkX_32 | exact lkX_p1 | exact lkX_p3 | exact lkX_p5 | exact lkX_p7 | exact lkX_p9 | exact lkX_2 | exact lkX_109 | exact lkX_4 | exact lkX_d); rfl) rfl ?_
  refine j_getf (pc := 29) dX6_unevenness_29 fl_X6_144 (by apply lkE; (with_reducible first | exact lkX_1 | exact lkX_27 | exact lkX_p | exact lkX_34 | exact lkX_35 | exact lkX_107 | exact lkX_125 | exact lkX_127 | exact lkX_28 | exact lkX_30 | exact lkX_32 | exact lkX_p1 | exact lkX_p3 | exact lkX_p5 | exact lkX_p7 | exact lkX_p9 | exact lkX_2 | exact lkX_109 | exact lkX_4 | exact lkX_d); rfl) rfl ?_
  refine j_iload_n (pc := 32) dX6_unevenness_32 rfl ?_
  refine j_v1 (pc := 33) (ci := 3) dX6_unevenness_33 mc_X3_sumOf ml_X6_126 im_X3_sumOf se_X3_sumOf rfl rfl (by apply lkE; (with_reducible first | exact lkX_1 | exact lkX_27 | exact lkX_p | exact lkX_34 | exact lkX_35 | exact lkX_107 | exact lkX_125 | exact lkX_127 | exact lkX_28 | exact lkX_30 | exact lkX_32 | exact lkX_p1 | exact lkX_p3 | exact lkX_p5 | exact lkX_p7 | exact lkX_p9 | exact lkX_2 | exact lkX_109 | exact lkX_4 | exact lkX_d); rfl) (by omega) (c_sumOf (by apply lkE; (with_reducible first | exact lkX_p1 | exact lkX_p9); rfl) (by apply lkE; (with_reducible first | exact lkX_p2 | exact lkX_p10); rfl)) (Nat.le_of_ble_eq_true rfl) ?_
  refine j_isub (pc := 36) dX6_unevenness_36 ?_
  refine j_abs (pc := 37) dX6_unevenness_37 ml_X6_289 (by omega) (Nat.le_of_ble_eq_true rfl) ?_
  refine j_ireturn (pc := 40) dX6_unevenness_40 rfl ?_
  exact ⟨rfl, rfl⟩

set_option maxRecDepth 20000 in
set_option maxHeartbeats 1000000 in
theorem x_isBetter {v w : Int32} : CD g 3 mX6_isBetter [.ref 1, .int v, .int w] (W1 scr tl lt lc rd sw P D S kk nx ring bu im kept tb tr tc ts) (some (.int (b2i (ibI P v w)))) (W1 scr tl lt lc rd sw P D S kk nx ring bu im kept tb tr tc ts) := by
  refine C.of (by decide +kernel) (by simp [Value.category]) (Nat.le_of_ble_eq_true rfl) ?_
  change J g mX6_isBetter 3 0 0 _ (W1 scr tl lt lc rd sw P D S kk nx ring bu im kept tb tr tc ts) 0 [some (.ref 1), some (.int v), some (.int w), none, none] []
  refine j_aload_n (pc := 0) dX6_isBetter_0 rfl ?_
  refine j_iload_n (pc := 1) dX6_isBetter_1 rfl ?_
  refine j_v1 (pc := 2) (ci := 6) dX6_isBetter_2 mc_X6_unevenness ml_X6_231 im_X6_unevenness se_X6_unevenness rfl rfl (by apply lkE; (with_reducible first | exact lkX_1 | exact lkX_27 | exact lkX_p | exact lkX_34 | exact lkX_35 | exact lkX_107 | exact lkX_125 | exact lkX_127 | exact lkX_28 | exact lkX_30 | exact lkX_32 | exact lkX_p1 | exact lkX_p3 | exact lkX_p5 | exact lkX_p7 | exact lkX_p9 | exact lkX_2 | exact lkX_109 | exact lkX_4 | exact lkX_d); rfl) (by omega) (x_uneven) (Nat.le_of_ble_eq_true rfl) ?_
  refine j_istore_n (pc := 5) dX6_isBetter_5 rfl (Nat.le_of_ble_eq_true rfl) rfl ?_
  refine j_aload_n (pc := 6) dX6_isBetter_6 rfl ?_
  refine j_iload_n (pc := 7) dX6_isBetter_7 rfl ?_
  refine j_v1 (pc := 8) (ci := 6) dX6_isBetter_8 mc_X6_unevenness ml_X6_231 im_X6_unevenness se_X6_unevenness rfl rfl (by apply lkE; (with_reducible first | exact lkX_1 | exact lkX_27 | exact lkX_p | exact lkX_34 | exact lkX_35 | exact lkX_107 | exact lkX_125 | exact lkX_127 | exact lkX_28 | exact lkX_30 | exact lkX_32 | exact lkX_p1 | exact lkX_p3 | exact lkX_p5 | exact lkX_p7 | exact lkX_p9 | exact lkX_2 | exact lkX_109 | exact lkX_4 | exact lkX_d); rfl) (by omega) (x_uneven) (Nat.le_of_ble_eq_true rfl) ?_
  refine j_istore (pc := 11) dX6_isBetter_11 (Nat.le_of_ble_eq_true rfl) rfl ?_
  refine j_iload_n (pc := 13) dX6_isBetter_13 rfl ?_
  refine j_iload (pc := 14) dX6_isBetter_14 rfl ?_
  refine j_icmp_eq (pc := 16) (tgt := 31) dX6_isBetter_16 rfl (fun zc16 => ?_) (fun zc16 => ?_)
  · refine j_aload_n (pc := 31) dX6_isBetter_31 rfl ?_
    refine j_getf (pc := 32) dX6_isBetter_32 fl_X6_30 (by apply lkE; (with_reducible first | exact lkX_1 | exact lkX_27 | exact lkX_p | exact lkX_34 | exact lkX_35 | exact lkX_107 | exact lkX_125 | exact lkX_127 | exact lkX_28 | exact lkX_30 | exact lkX_32 | exact lkX_p1 | exact lkX_p3 | exact lkX_p5 | exact lkX_p7 | exact lkX_p9 | exact lkX_2 | exact lkX_109 | exact lkX_4 | exact lkX_d); rfl) rfl ?_
    refine j_getf (pc := 35) dX6_isBetter_35 fl_X6_144 (by apply lkE; (with_reducible first | exact lkX_1 | exact lkX_27 | exact lkX_p | exact lkX_34 | exact lkX_35 | exact lkX_107 | exact lkX_125 | exact lkX_127 | exact lkX_28 | exact lkX_30 | exact lkX_32 | exact lkX_p1 | exact lkX_p3 | exact lkX_p5 | exact lkX_p7 | exact lkX_p9 | exact lkX_2 | exact lkX_109 | exact lkX_4 | exact lkX_d); rfl) rfl ?_
    refine j_iload_n (pc := 38) dX6_isBetter_38 rfl ?_
    refine j_s1 (pc := 39) dX6_isBetter_39 mc_X6_fourOf ml_X6_225 sm_X6_fourOf (by omega) (c_fourOf) (Nat.le_of_ble_eq_true rfl) ?_
    refine j_v1 (pc := 42) (ci := 3) dX6_isBetter_42 mc_X3_sumOf ml_X6_126 im_X3_sumOf se_X3_sumOf rfl rfl (by apply lkE; (with_reducible first | exact lkX_1 | exact lkX_27 | exact lkX_p | exact lkX_34 | exact lkX_35 | exact lkX_107 | exact lkX_125 | exact lkX_127 | exact lkX_28 | exact lkX_30 | exact lkX_32 | exact lkX_p1 | exact lkX_p3 | exact lkX_p5 | exact lkX_p7 | exact lkX_p9 | exact lkX_2 | exact lkX_109 | exact lkX_4 | exact lkX_d); rfl) (by omega) (c_sumOf (by apply lkE; (with_reducible first | exact lkX_p1 | exact lkX_p9); rfl) (by apply lkE; (with_reducible first | exact lkX_p2 | exact lkX_p10); rfl)) (Nat.le_of_ble_eq_true rfl) ?_
    refine j_aload_n (pc := 45) dX6_isBetter_45 rfl ?_
    refine j_getf (pc := 46) dX6_isBetter_46 fl_X6_30 (by apply lkE; (with_reducible first | exact lkX_1 | exact lkX_27 | exact lkX_p | exact lkX_34 | exact lkX_35 | exact lkX_107 | exact lkX_125 | exact lkX_127 | exact lkX_28 | exact lkX_30 | exact lkX_32 | exact lkX_p1 | exact lkX_p3 | exact lkX_p5 | exact lkX_p7 | exact lkX_p9 | exact lkX_2 | exact lkX_109 | exact lkX_4 | exact lkX_d); rfl) rfl ?_
    refine j_getf (pc := 49) dX6_isBetter_49 fl_X6_144 (by apply lkE; (with_reducible first | exact lkX_1 | exact lkX_27 | exact lkX_p | exact lkX_34 | exact lkX_35 | exact lkX_107 | exact lkX_125 | exact lkX_127 | exact lkX_28 | exact lkX_30 | exact lkX_32 | exact lkX_p1 | exact lkX_p3 | exact lkX_p5 | exact lkX_p7 | exact lkX_p9 | exact lkX_2 | exact lkX_109 | exact lkX_4 | exact lkX_d); rfl) rfl ?_
    refine j_iload_n (pc := 52) dX6_isBetter_52 rfl ?_
    refine j_s1 (pc := 53) dX6_isBetter_53 mc_X6_fourOf ml_X6_225 sm_X6_fourOf (by omega) (c_fourOf) (Nat.le_of_ble_eq_true rfl) ?_
    refine j_v1 (pc := 56) (ci := 3) dX6_isBetter_56 mc_X3_sumOf ml_X6_126 im_X3_sumOf se_X3_sumOf rfl rfl (by apply lkE; (with_reducible first | exact lkX_1 | exact lkX_27 | exact lkX_p | exact lkX_34 | exact lkX_35 | exact lkX_107 | exact lkX_125 | exact lkX_127 | exact lkX_28 | exact lkX_30 | exact lkX_32 | exact lkX_p1 | exact lkX_p3 | exact lkX_p5 | exact lkX_p7 | exact lkX_p9 | exact lkX_2 | exact lkX_109 | exact lkX_4 | exact lkX_d); rfl) (by omega) (c_sumOf (by apply lkE; (with_reducible first | exact lkX_p1 | exact lkX_p9); rfl) (by apply lkE; (with_reducible first | exact lkX_p2 | exact lkX_p10); rfl)) (Nat.le_of_ble_eq_true rfl) ?_
    refine j_icmp_ge (pc := 59) (tgt := 66) dX6_isBetter_59 rfl (fun zc59 => ?_) (fun zc59 => ?_)
    · refine j_iconst (pc := 66) dX6_isBetter_66 kc_0 ?_
      refine j_zret (pc := 67) (b := ibI P v w) dX6_isBetter_67 rfl (by simp [ibI, b2i, *]) ?_
      exact ⟨rfl, rfl⟩
    · refine j_iconst (pc := 62) dX6_isBetter_62 kc_1 ?_
      refine j_goto (pc := 63) (tgt := 67) dX6_isBetter_63 rfl ?_
      refine j_zret (pc := 67) (b := ibI P v w) dX6_isBetter_67 rfl (by simp [ibI, b2i, *]) ?_
      exact ⟨rfl, rfl⟩
  · refine j_iload_n (pc := 19) dX6_isBetter_19 rfl ?_
    refine j_iload (pc := 20) dX6_isBetter_20 rfl ?_
    refine j_icmp_ge (pc := 22) (tgt := 29) dX6_isBetter_22 rfl (fun zc22 => ?_) (fun zc22 => ?_)
    · refine j_iconst (pc := 29) dX6_isBetter_29 kc_0 ?_
      refine j_zret (pc := 30) (b := ibI P v w) dX6_isBetter_30 rfl (by simp [ibI, b2i, *]) ?_
      exact ⟨rfl, rfl⟩
    · refine j_iconst (pc := 25) dX6_isBetter_25 kc_1 ?_
      refine j_goto (pc := 26) (tgt := 30) dX6_isBetter_26 rfl ?_
      refine j_zret (pc := 30) (b := ibI P v w) dX6_isBetter_30 rfl (by simp [ibI, b2i, *]) ?_
      exact ⟨rfl, rfl⟩

set_option maxRecDepth 20000 in
set_option maxHeartbeats 1000000 in
theorem xl_betterWay {f : Nat} (hf : f < 64) {z : Int32} : ∀ (m k : Nat) (a : Int32), k + m = f → Q (some (.int (iter (bwStep P (nI f)) m k a))) (W1 scr tl lt lc rd sw P D S kk nx ring bu im kept tb tr tc ts) → J g mX6_betterWay 4 0 0 Q (W1 scr tl lt lc rd sw P D S kk nx ring bu im kept tb tr tc ts) 5 [some (.ref 1), some (.int (nI f)), some (.int z), some (.int a), some (.int (nI k)), none] [] := by
  intro m
  induction m with
  | zero =>
    intro k a hk hq
    refine j_iload (pc := 5) dX6_betterWay_5 rfl ?_
    refine j_iload_n (pc := 7) dX6_betterWay_7 rfl ?_
    refine j_icmp_ge (pc := 8) (tgt := 74) dX6_betterWay_8 rfl (fun _ => ?_) (fun zc8 => absurd (nI_le (a := f) (b := k) (by omega) (by omega)) zc8)
    refine j_iload_n (pc := 74) dX6_betterWay_74 rfl ?_
    refine j_ireturn (pc := 75) dX6_betterWay_75 rfl ?_
    exact hq
  | succ m ih =>
    intro k a hk hq
    refine j_iload (pc := 5) dX6_betterWay_5 rfl ?_
    refine j_iload_n (pc := 7) dX6_betterWay_7 rfl ?_
    refine j_icmp_ge (pc := 8) (tgt := 74) dX6_betterWay_8 rfl (fun zc8 => absurd zc8 (nI_ge (a := k) (b := f) (by omega) (by omega))) (fun _ => ?_)
    refine j_iload (pc := 11) dX6_betterWay_11 rfl ?_
    refine j_iload_n (pc := 13) dX6_betterWay_13 rfl ?_
    refine j_iconst (pc := 14) dX6_betterWay_14 kc_m1 ?_
    refine j_ixor (pc := 15) dX6_betterWay_15 ?_
    refine j_iand (pc := 16) dX6_betterWay_16 ?_
    refine j_if_ne (pc := 17) (tgt := 33) dX6_betterWay_17 rfl (fun zc17 => ?_) (fun zc17 => ?_)
    · refine j_iconst (pc := 33) dX6_betterWay_33 kc_0 ?_
      refine j_istore (pc := 34) dX6_betterWay_34 (Nat.le_of_ble_eq_true rfl) rfl ?_
      refine j_iload (pc := 36) dX6_betterWay_36 rfl ?_
      refine j_if_eq (pc := 38) (tgt := 68) dX6_betterWay_38 rfl (fun _ => ?_) (fun zc38 => absurd (show (0 : Int32) = 0 by decide) zc38)
      refine j_iinc (pc := 68) dX6_betterWay_68 rfl rfl (Nat.le_of_ble_eq_true rfl) rfl ?_
      refine j_goto (pc := 71) (tgt := 5) dX6_betterWay_71 rfl ?_
      rw [nI_s]
      refine j_weak (ls' := [some _, some _, some _, some _, some _, none]) ⟨rfl, rfl, rfl, rfl, rfl, trivial⟩ ?_
      refine ih (k + 1) _ (by omega) ?_
      first
        | simpa [iter, bwStep, wyI, *] using hq
        | (simp only [iter, bwStep, wyI, *, ↓reduceIte, not_false_eq_true, Bool.false_eq_true] at hq; exact hq)
    · refine j_iload (pc := 20) dX6_betterWay_20 rfl ?_
      refine j_s1 (pc := 22) dX6_betterWay_22 mc_J6_bitCount_0f7a4 ml_X6_181 sm_J6_bitCount_0f7a4 (by omega) (c_bitCount) (Nat.le_of_ble_eq_true rfl) ?_
      refine j_iconst (pc := 25) dX6_betterWay_25 kc_2 ?_
      refine j_icmp_ne (pc := 26) (tgt := 33) dX6_betterWay_26 rfl (fun zc26 => ?_) (fun zc26 => ?_)
      · refine j_iconst (pc := 33) dX6_betterWay_33 kc_0 ?_
        refine j_istore (pc := 34) dX6_betterWay_34 (Nat.le_of_ble_eq_true rfl) rfl ?_
        refine j_iload (pc := 36) dX6_betterWay_36 rfl ?_
        refine j_if_eq (pc := 38) (tgt := 68) dX6_betterWay_38 rfl (fun _ => ?_) (fun zc38 => absurd (show (0 : Int32) = 0 by decide) zc38)
        refine j_iinc (pc := 68) dX6_betterWay_68 rfl rfl (Nat.le_of_ble_eq_true rfl) rfl ?_
        refine j_goto (pc := 71) (tgt := 5) dX6_betterWay_71 rfl ?_
        rw [nI_s]
        refine j_weak (ls' := [some _, some _, some _, some _, some _, none]) ⟨rfl, rfl, rfl, rfl, rfl, trivial⟩ ?_
        refine ih (k + 1) _ (by omega) ?_
        first
          | simpa [iter, bwStep, wyI, *] using hq
          | (simp only [iter, bwStep, wyI, *, ↓reduceIte, not_false_eq_true, Bool.false_eq_true] at hq; exact hq)
      · refine j_iconst (pc := 29) dX6_betterWay_29 kc_1 ?_
        refine j_goto (pc := 30) (tgt := 34) dX6_betterWay_30 rfl ?_
        refine j_istore (pc := 34) dX6_betterWay_34 (Nat.le_of_ble_eq_true rfl) rfl ?_
        refine j_iload (pc := 36) dX6_betterWay_36 rfl ?_
        refine j_if_eq (pc := 38) (tgt := 68) dX6_betterWay_38 rfl (fun zc38 => absurd zc38 (show ¬ (1 : Int32) = 0 by decide)) (fun _ => ?_)
        refine j_iload_n (pc := 41) dX6_betterWay_41 rfl ?_
        refine j_bipush (pc := 42) dX6_betterWay_42 kb_m9 ?_
        refine j_icmp_eq (pc := 44) (tgt := 61) dX6_betterWay_44 rfl (fun zc44 => ?_) (fun zc44 => ?_)
        · refine j_iload_n (pc := 61) dX6_betterWay_61 rfl ?_
          refine j_iload (pc := 62) dX6_betterWay_62 rfl ?_
          refine j_s2 (pc := 64) dX6_betterWay_64 mc_X6_wayOf ml_X6_301 sm_X6_wayOf (by omega) (c_wayOf) (Nat.le_of_ble_eq_true rfl) ?_
          refine j_istore_n (pc := 67) dX6_betterWay_67 rfl (Nat.le_of_ble_eq_true rfl) rfl ?_
          refine j_iinc (pc := 68) dX6_betterWay_68 rfl rfl (Nat.le_of_ble_eq_true rfl) rfl ?_
          refine j_goto (pc := 71) (tgt := 5) dX6_betterWay_71 rfl ?_
          rw [nI_s]
          refine j_weak (ls' := [some _, some _, some _, some _, some _, none]) ⟨rfl, rfl, rfl, rfl, rfl, trivial⟩ ?_
          refine ih (k + 1) _ (by omega) ?_
          first
            | simpa [iter, bwStep, wyI, *] using hq
            | (simp only [iter, bwStep, wyI, *, ↓reduceIte, not_false_eq_true, Bool.false_eq_true] at hq; exact hq)
        · refine j_aload_n (pc := 47) dX6_betterWay_47 rfl ?_
          refine j_iload_n (pc := 48) dX6_betterWay_48 rfl ?_
          refine j_iload (pc := 49) dX6_betterWay_49 rfl ?_
          refine j_s2 (pc := 51) dX6_betterWay_51 mc_X6_wayOf ml_X6_301 sm_X6_wayOf (by omega) (c_wayOf) (Nat.le_of_ble_eq_true rfl) ?_
          refine j_iload_n (pc := 54) dX6_betterWay_54 rfl ?_
          refine j_v2 (pc := 55) (ci := 6) dX6_betterWay_55 mc_X6_isBetter ml_X6_304 im_X6_isBetter se_X6_isBetter rfl rfl (by apply lkE; (with_reducible first | exact lkX_1 | exact lkX_27 | exact lkX_p | exact lkX_34 | exact lkX_35 | exact lkX_107 | exact lkX_125 | exact lkX_127 | exact lkX_28 | exact lkX_30 | exact lkX_32 | exact lkX_p1 | exact lkX_p3 | exact lkX_p5 | exact lkX_p7 | exact lkX_p9 | exact lkX_2 | exact lkX_109 | exact lkX_4 | exact lkX_d); rfl) (by omega) (x_isBetter) (Nat.le_of_ble_eq_true rfl) ?_
          refine j_beq (pc := 58) (tgt := 68) dX6_betterWay_58 rfl (fun zc58 => ?_) (fun zc58 => ?_)
          · refine j_iinc (pc := 68) dX6_betterWay_68 rfl rfl (Nat.le_of_ble_eq_true rfl) rfl ?_
            refine j_goto (pc := 71) (tgt := 5) dX6_betterWay_71 rfl ?_
            rw [nI_s]
            refine j_weak (ls' := [some _, some _, some _, some _, some _, none]) ⟨rfl, rfl, rfl, rfl, rfl, trivial⟩ ?_
            refine ih (k + 1) _ (by omega) ?_
            first
              | simpa [iter, bwStep, wyI, *] using hq
              | (simp only [iter, bwStep, wyI, *, ↓reduceIte, not_false_eq_true, Bool.false_eq_true] at hq; exact hq)
          · refine j_iload_n (pc := 61) dX6_betterWay_61 rfl ?_
            refine j_iload (pc := 62) dX6_betterWay_62 rfl ?_
            refine j_s2 (pc := 64) dX6_betterWay_64 mc_X6_wayOf ml_X6_301 sm_X6_wayOf (by omega) (c_wayOf) (Nat.le_of_ble_eq_true rfl) ?_
            refine j_istore_n (pc := 67) dX6_betterWay_67 rfl (Nat.le_of_ble_eq_true rfl) rfl ?_
            refine j_iinc (pc := 68) dX6_betterWay_68 rfl rfl (Nat.le_of_ble_eq_true rfl) rfl ?_
            refine j_goto (pc := 71) (tgt := 5) dX6_betterWay_71 rfl ?_
            rw [nI_s]
            refine j_weak (ls' := [some _, some _, some _, some _, some _, none]) ⟨rfl, rfl, rfl, rfl, rfl, trivial⟩ ?_
            refine ih (k + 1) _ (by omega) ?_
            first
              | simpa [iter, bwStep, wyI, *] using hq
              | (simp only [iter, bwStep, wyI, *, ↓reduceIte, not_false_eq_true, Bool.false_eq_true] at hq; exact hq)

set_option maxRecDepth 20000 in
set_option maxHeartbeats 1000000 in
theorem x_betterWay {f : Nat} (hf : f < 64) {a : Int32} : CD g 4 mX6_betterWay [.ref 1, .int (nI f), .int a] (W1 scr tl lt lc rd sw P D S kk nx ring bu im kept tb tr tc ts) (some (.int (iter (bwStep P (nI f)) f 0 a))) (W1 scr tl lt lc rd sw P D S kk nx ring bu im kept tb tr tc ts) := by
  refine C.of (by decide +kernel) (by simp [Value.category]) (Nat.le_of_ble_eq_true rfl) ?_
  change J g mX6_betterWay 4 0 0 _ (W1 scr tl lt lc rd sw P D S kk nx ring bu im kept tb tr tc ts) 0 [some (.ref 1), some (.int (nI f)), some (.int a), none, none, none] []
  refine j_iload_n (pc := 0) dX6_betterWay_0 rfl ?_
  refine j_istore_n (pc := 1) dX6_betterWay_1 rfl (Nat.le_of_ble_eq_true rfl) rfl ?_
  refine j_iconst (pc := 2) dX6_betterWay_2 kc_0 ?_
  refine j_istore (pc := 3) dX6_betterWay_3 (Nat.le_of_ble_eq_true rfl) rfl ?_
  exact xl_betterWay hf f 0 a (by omega) ⟨rfl, rfl⟩

set_option maxRecDepth 20000 in
set_option maxHeartbeats 1000000 in
theorem xl_bestWay {w : Int32} {nb : Nat} (hbe : P.2.2.2.1 = nI nb) (hnb : nb ≤ 6) : ∀ (m k : Nat) (a : Int32), k + m = 2 ^ nb → Q (some (.int (iter (beStep P w) m k a))) (W1 scr tl lt lc rd sw P D S kk nx ring bu im kept tb tr tc ts) → J g mX6_bestWay 5 0 0 Q (W1 scr tl lt lc rd sw P D S kk nx ring bu im kept tb tr tc ts) 5 [some (.ref 1), some (.int w), some (.int a), some (.int (nI k))] [] := by
  have two := two_le hnb
  intro m
  induction m with
  | zero =>
    intro k a hk hq
    refine j_iload_n (pc := 5) dX6_bestWay_5 rfl ?_
    refine j_aload_n (pc := 6) dX6_bestWay_6 rfl ?_
    refine j_getf (pc := 7) dX6_bestWay_7 fl_X6_30 (by apply lkE; (with_reducible first | exact lkX_1 | exact lkX_27 | exact lkX_p | exact lkX_34 | exact lkX_35 | exact lkX_107 | exact lkX_125 | exact lkX_127 | exact lkX_28 | exact lkX_30 | exact lkX_32 | exact lkX_p1 | exact lkX_p3 | exact lkX_p5 | exact lkX_p7 | exact lkX_p9 | exact lkX_2 | exact lkX_109 | exact lkX_4 | exact lkX_d); rfl) rfl ?_
    refine j_getf (pc := 10) dX6_bestWay_10 fl_X6_237 (by apply lkE; (with_reducible first | exact lkX_1 | exact lkX_27 | exact lkX_p | exact lkX_34 | exact lkX_35 | exact lkX_107 | exact lkX_125 | exact lkX_127 | exact lkX_28 | exact lkX_30 | exact lkX_32 | exact lkX_p1 | exact lkX_p3 | exact lkX_p5 | exact lkX_p7 | exact lkX_p9 | exact lkX_2 | exact lkX_109 | exact lkX_4 | exact lkX_d); rfl) rfl ?_
    refine j_s1 (pc := 13) dX6_bestWay_13 mc_X6_allOf ml_X6_195 sm_X6_allOf (by omega) (c_allOf) (Nat.le_of_ble_eq_true rfl) ?_
    refine j_icmp_gt (pc := 16) (tgt := 55) dX6_bestWay_16 rfl (fun _ => ?_) (fun zc16 => absurd (by rw [hbe, allI_nI hnb]; exact nI_lt (by omega) (by omega)) zc16)
    refine j_iload_n (pc := 55) dX6_bestWay_55 rfl ?_
    refine j_ireturn (pc := 56) dX6_bestWay_56 rfl ?_
    exact hq
  | succ m ih =>
    intro k a hk hq
    refine j_iload_n (pc := 5) dX6_bestWay_5 rfl ?_
    refine j_aload_n (pc := 6) dX6_bestWay_6 rfl ?_
    refine j_getf (pc := 7) dX6_bestWay_7 fl_X6_30 (by apply lkE; (with_reducible first | exact lkX_1 | exact lkX_27 | exact lkX_p | exact lkX_34 | exact lkX_35 | exact lkX_107 | exact lkX_125 | exact lkX_127 | exact lkX_28 | exact lkX_30 | exact lkX_32 | exact lkX_p1 | exact lkX_p3 | exact lkX_p5 | exact lkX_p7 | exact lkX_p9 | exact lkX_2 | exact lkX_109 | exact lkX_4 | exact lkX_d); rfl) rfl ?_
    refine j_getf (pc := 10) dX6_bestWay_10 fl_X6_237 (by apply lkE; (with_reducible first | exact lkX_1 | exact lkX_27 | exact lkX_p | exact lkX_34 | exact lkX_35 | exact lkX_107 | exact lkX_125 | exact lkX_127 | exact lkX_28 | exact lkX_30 | exact lkX_32 | exact lkX_p1 | exact lkX_p3 | exact lkX_p5 | exact lkX_p7 | exact lkX_p9 | exact lkX_2 | exact lkX_109 | exact lkX_4 | exact lkX_d); rfl) rfl ?_
    refine j_s1 (pc := 13) dX6_bestWay_13 mc_X6_allOf ml_X6_195 sm_X6_allOf (by omega) (c_allOf) (Nat.le_of_ble_eq_true rfl) ?_
    refine j_icmp_gt (pc := 16) (tgt := 55) dX6_bestWay_16 rfl (fun zc16 => absurd zc16 (by rw [hbe, allI_nI hnb]; exact nI_nlt (by omega) (by omega))) (fun _ => ?_)
    refine j_iload_n (pc := 19) dX6_bestWay_19 rfl ?_
    refine j_s1 (pc := 20) dX6_bestWay_20 mc_J6_bitCount_0f7a4 ml_X6_181 sm_J6_bitCount_0f7a4 (by omega) (c_bitCount) (Nat.le_of_ble_eq_true rfl) ?_
    refine j_iconst (pc := 23) dX6_bestWay_23 kc_4 ?_
    refine j_icmp_ne (pc := 24) (tgt := 49) dX6_bestWay_24 rfl (fun zc24 => ?_) (fun zc24 => ?_)
    · refine j_iinc (pc := 49) dX6_bestWay_49 rfl rfl (Nat.le_of_ble_eq_true rfl) rfl ?_
      refine j_goto (pc := 52) (tgt := 5) dX6_bestWay_52 rfl ?_
      rw [nI_s]
      refine ih (k + 1) _ (by omega) ?_
      first
        | simpa [iter, beStep, *] using hq
        | (simp only [iter, beStep, *, ↓reduceIte, not_false_eq_true, Bool.false_eq_true] at hq; exact hq)
    · refine j_aload_n (pc := 27) dX6_bestWay_27 rfl ?_
      refine j_getf (pc := 28) dX6_bestWay_28 fl_X6_30 (by apply lkE; (with_reducible first | exact lkX_1 | exact lkX_27 | exact lkX_p | exact lkX_34 | exact lkX_35 | exact lkX_107 | exact lkX_125 | exact lkX_127 | exact lkX_28 | exact lkX_30 | exact lkX_32 | exact lkX_p1 | exact lkX_p3 | exact lkX_p5 | exact lkX_p7 | exact lkX_p9 | exact lkX_2 | exact lkX_109 | exact lkX_4 | exact lkX_d); rfl) rfl ?_
      refine j_getf (pc := 31) dX6_bestWay_31 fl_X6_144 (by apply lkE; (with_reducible first | exact lkX_1 | exact lkX_27 | exact lkX_p | exact lkX_34 | exact lkX_35 | exact lkX_107 | exact lkX_125 | exact lkX_127 | exact lkX_28 | exact lkX_30 | exact lkX_32 | exact lkX_p1 | exact lkX_p3 | exact lkX_p5 | exact lkX_p7 | exact lkX_p9 | exact lkX_2 | exact lkX_109 | exact lkX_4 | exact lkX_d); rfl) rfl ?_
      refine j_iload_n (pc := 34) dX6_bestWay_34 rfl ?_
      refine j_v1 (pc := 35) (ci := 3) dX6_bestWay_35 mc_X3_sumOf ml_X6_126 im_X3_sumOf se_X3_sumOf rfl rfl (by apply lkE; (with_reducible first | exact lkX_1 | exact lkX_27 | exact lkX_p | exact lkX_34 | exact lkX_35 | exact lkX_107 | exact lkX_125 | exact lkX_127 | exact lkX_28 | exact lkX_30 | exact lkX_32 | exact lkX_p1 | exact lkX_p3 | exact lkX_p5 | exact lkX_p7 | exact lkX_p9 | exact lkX_2 | exact lkX_109 | exact lkX_4 | exact lkX_d); rfl) (by omega) (c_sumOf (by apply lkE; (with_reducible first | exact lkX_p1 | exact lkX_p9); rfl) (by apply lkE; (with_reducible first | exact lkX_p2 | exact lkX_p10); rfl)) (Nat.le_of_ble_eq_true rfl) ?_
      refine j_iload_n (pc := 38) dX6_bestWay_38 rfl ?_
      refine j_icmp_lt (pc := 39) (tgt := 49) dX6_bestWay_39 rfl (fun zc39 => ?_) (fun zc39 => ?_)
      · refine j_iinc (pc := 49) dX6_bestWay_49 rfl rfl (Nat.le_of_ble_eq_true rfl) rfl ?_
        refine j_goto (pc := 52) (tgt := 5) dX6_bestWay_52 rfl ?_
        rw [nI_s]
        refine ih (k + 1) _ (by omega) ?_
        first
          | simpa [iter, beStep, *] using hq
          | (simp only [iter, beStep, *, ↓reduceIte, not_false_eq_true, Bool.false_eq_true] at hq; exact hq)
      · refine j_aload_n (pc := 42) dX6_bestWay_42 rfl ?_
        refine j_iload_n (pc := 43) dX6_bestWay_43 rfl ?_
        refine j_iload_n (pc := 44) dX6_bestWay_44 rfl ?_
        refine j_v2 (pc := 45) (ci := 6) dX6_bestWay_45 mc_X6_betterWay ml_X6_298 im_X6_betterWay se_X6_betterWay rfl rfl (by apply lkE; (with_reducible first | exact lkX_1 | exact lkX_27 | exact lkX_p | exact lkX_34 | exact lkX_35 | exact lkX_107 | exact lkX_125 | exact lkX_127 | exact lkX_28 | exact lkX_30 | exact lkX_32 | exact lkX_p1 | exact lkX_p3 | exact lkX_p5 | exact lkX_p7 | exact lkX_p9 | exact lkX_2 | exact lkX_109 | exact lkX_4 | exact lkX_d); rfl) (by omega) (x_betterWay (by omega)) (Nat.le_of_ble_eq_true rfl) ?_
        refine j_istore_n (pc := 48) dX6_bestWay_48 rfl (Nat.le_of_ble_eq_true rfl) rfl ?_
        refine j_iinc (pc := 49) dX6_bestWay_49 rfl rfl (Nat.le_of_ble_eq_true rfl) rfl ?_
        refine j_goto (pc := 52) (tgt := 5) dX6_bestWay_52 rfl ?_
        rw [nI_s]
        refine ih (k + 1) _ (by omega) ?_
        first
          | simpa [iter, beStep, *] using hq
          | (simp only [iter, beStep, *, ↓reduceIte, not_false_eq_true, Bool.false_eq_true] at hq; exact hq)

set_option maxRecDepth 20000 in
set_option maxHeartbeats 1000000 in
theorem x_bestWay {w : Int32} {nb : Nat} (hbe : P.2.2.2.1 = nI nb) (hnb : nb ≤ 6) : CD g 5 mX6_bestWay [.ref 1, .int w] (W1 scr tl lt lc rd sw P D S kk nx ring bu im kept tb tr tc ts) (some (.int (bestI P nb w))) (W1 scr tl lt lc rd sw P D S kk nx ring bu im kept tb tr tc ts) := by
  refine C.of (by decide +kernel) (by simp [Value.category]) (Nat.le_of_ble_eq_true rfl) ?_
  change J g mX6_bestWay 5 0 0 _ (W1 scr tl lt lc rd sw P D S kk nx ring bu im kept tb tr tc ts) 0 [some (.ref 1), some (.int w), none, none] []
  refine j_bipush (pc := 0) dX6_bestWay_0 kb_m9 ?_
  refine j_istore_n (pc := 2) dX6_bestWay_2 rfl (Nat.le_of_ble_eq_true rfl) rfl ?_
  refine j_iconst (pc := 3) dX6_bestWay_3 kc_0 ?_
  refine j_istore_n (pc := 4) dX6_bestWay_4 rfl (Nat.le_of_ble_eq_true rfl) rfl ?_
  exact xl_bestWay hbe hnb (2 ^ nb) 0 (-9) (by omega) ⟨rfl, rfl⟩

set_option maxRecDepth 20000 in
set_option maxHeartbeats 1000000 in
theorem x_carry {w c : Int32} {nb : Nat} (hbe : P.2.2.2.1 = nI nb) (hnb : nb ≤ 6) (h1 : (jin w 1 240 && jin c 0 2) = false → Q (some (.int (-1))) (W1 scr tl lt lc rd sw P D S kk nx ring bu im kept tb tr tc ts)) (h2 : jin w 1 240 = true → jin c 0 2 = true → Q (some (.int (if bestI P nb w = -9 then -9 else if c = 0 then bestI P nb w >>> (6 &&& 31) else if c = 1 then bestI P nb w &&& allI 6 else unI P (bestI P nb w)))) (W1 scr tl lt lc rd sw P D S kk nx ring bu im kept tb tr tc ts)) : C g 6 0 0 mX6_carry [.ref 1, .int w, .int c] (W1 scr tl lt lc rd sw P D S kk nx ring bu im kept tb tr tc ts) Q := by
  refine C.of (by decide +kernel) (by simp [Value.category]) (Nat.le_of_ble_eq_true rfl) ?_
  change J g mX6_carry 6 0 0 _ (W1 scr tl lt lc rd sw P D S kk nx ring bu im kept tb tr tc ts) 0 [some (.ref 1), some (.int w), some (.int c), none] []
  refine j_iload_n (pc := 0) dX6_carry_0 rfl ?_
  refine j_iconst (pc := 1) dX6_carry_1 kc_1 ?_
  refine j_sipush (pc := 2) dX6_carry_2 ks_240 ?_
  refine j_s3 (pc := 5) dX6_carry_5 mc_X6_isWithin ml_X6_71 sm_X6_isWithin (by omega) (c_isWithin) (Nat.le_of_ble_eq_true rfl) ?_
  refine j_beq (pc := 8) (tgt := 20) dX6_carry_8 rfl (fun zc8 => ?_) (fun zc8 => ?_)
  · refine j_iconst (pc := 20) dX6_carry_20 kc_m1 ?_
    refine j_ireturn (pc := 21) dX6_carry_21 rfl ?_
    exact h1 (by simp [*])
  · refine j_iload_n (pc := 11) dX6_carry_11 rfl ?_
    refine j_iconst (pc := 12) dX6_carry_12 kc_0 ?_
    refine j_iconst (pc := 13) dX6_carry_13 kc_2 ?_
    refine j_s3 (pc := 14) dX6_carry_14 mc_X6_isWithin ml_X6_71 sm_X6_isWithin (by omega) (c_isWithin) (Nat.le_of_ble_eq_true rfl) ?_
    refine j_bne (pc := 17) (tgt := 22) dX6_carry_17 rfl (fun zc17 => ?_) (fun zc17 => ?_)
    · refine j_aload_n (pc := 22) dX6_carry_22 rfl ?_
      refine j_iload_n (pc := 23) dX6_carry_23 rfl ?_
      refine j_v1 (pc := 24) (ci := 6) dX6_carry_24 mc_X6_bestWay ml_X6_222 im_X6_bestWay se_X6_bestWay rfl rfl (by apply lkE; (with_reducible first | exact lkX_1 | exact lkX_27 | exact lkX_p | exact lkX_34 | exact lkX_35 | exact lkX_107 | exact lkX_125 | exact lkX_127 | exact lkX_28 | exact lkX_30 | exact lkX_32 | exact lkX_p1 | exact lkX_p3 | exact lkX_p5 | exact lkX_p7 | exact lkX_p9 | exact lkX_2 | exact lkX_109 | exact lkX_4 | exact lkX_d); rfl) (by omega) (x_bestWay hbe hnb) (Nat.le_of_ble_eq_true rfl) ?_
      refine j_istore_n (pc := 27) dX6_carry_27 rfl (Nat.le_of_ble_eq_true rfl) rfl ?_
      refine j_iload_n (pc := 28) dX6_carry_28 rfl ?_
      refine j_bipush (pc := 29) dX6_carry_29 kb_m9 ?_
      refine j_icmp_ne (pc := 31) (tgt := 37) dX6_carry_31 rfl (fun zc31 => ?_) (fun zc31 => ?_)
      · refine j_iload_n (pc := 37) dX6_carry_37 rfl ?_
        by_cases zs38_0 : c = 0
        · refine j_lookup (pc := 38) (off := 26) (tgt := 64) dX6_carry_38 (by decide) (by rw [zs38_0]; decide) rfl ?_
          refine j_iload_n (pc := 64) dX6_carry_64 rfl ?_
          refine j_s1 (pc := 65) dX6_carry_65 mc_X6_fourOf ml_X6_225 sm_X6_fourOf (by omega) (c_fourOf) (Nat.le_of_ble_eq_true rfl) ?_
          refine j_ireturn (pc := 68) dX6_carry_68 rfl ?_
          simpa [*] using h2 zc8 zc17
        by_cases zs38_1 : c = 1
        · refine j_lookup (pc := 38) (off := 31) (tgt := 69) dX6_carry_38 (by decide) (by rw [zs38_1]; decide) rfl ?_
          refine j_iload_n (pc := 69) dX6_carry_69 rfl ?_
          refine j_s1 (pc := 70) dX6_carry_70 mc_X6_leftOf ml_X6_228 sm_X6_leftOf (by omega) (c_leftOf) (Nat.le_of_ble_eq_true rfl) ?_
          refine j_ireturn (pc := 73) dX6_carry_73 rfl ?_
          simpa [*] using h2 zc8 zc17
        refine j_lookup (pc := 38) (off := 36) (tgt := 74) dX6_carry_38 (by decide) (by rw [lv_osw zs38_0 (a := 0) (by decide), lv_osw zs38_1 (a := 1) (by decide)]; rfl) rfl ?_
        refine j_aload_n (pc := 74) dX6_carry_74 rfl ?_
        refine j_iload_n (pc := 75) dX6_carry_75 rfl ?_
        refine j_v1 (pc := 76) (ci := 6) dX6_carry_76 mc_X6_unevenness ml_X6_231 im_X6_unevenness se_X6_unevenness rfl rfl (by apply lkE; (with_reducible first | exact lkX_1 | exact lkX_27 | exact lkX_p | exact lkX_34 | exact lkX_35 | exact lkX_107 | exact lkX_125 | exact lkX_127 | exact lkX_28 | exact lkX_30 | exact lkX_32 | exact lkX_p1 | exact lkX_p3 | exact lkX_p5 | exact lkX_p7 | exact lkX_p9 | exact lkX_2 | exact lkX_109 | exact lkX_4 | exact lkX_d); rfl) (by omega) (x_uneven) (Nat.le_of_ble_eq_true rfl) ?_
        refine j_ireturn (pc := 79) dX6_carry_79 rfl ?_
        simpa [*] using h2 zc8 zc17
      · refine j_bipush (pc := 34) dX6_carry_34 kb_m9 ?_
        refine j_ireturn (pc := 36) dX6_carry_36 rfl ?_
        simpa [*] using h2 zc8 zc17
    · refine j_iconst (pc := 20) dX6_carry_20 kc_m1 ?_
      refine j_ireturn (pc := 21) dX6_carry_21 rfl ?_
      exact h1 (by simp [*])

def plStep (x kk3 : Int32) (nb : Nat) (k : Nat) (a : Int32) : Int32 := if kk3 < nI (popN k) then a else a + powI x (popN k) 0 1 * powI (10 - x) (nb - popN k) 0 1
def plI (x kk3 : Int32) (nb : Nat) : Int32 := iter (plStep x kk3 nb) (2 ^ nb) 0 0
def cdL : Nat → Int32 → Int32 → Int32
  | 0, l, _ => l
  | m + 1, l, s => if s ≤ 0 then l else cdL m s (l - l / s * s)
theorem imax1 (x : Int32) : ¬ imax 1 x = 0 := by
  unfold imax
  split
  · rename_i h
    intro e
    rw [e] at h
    exact absurd h (by decide)
  · decide
set_option maxRecDepth 20000 in
set_option maxHeartbeats 1000000 in
theorem xl_part {x kk3 : Int32} {nb : Nat} (hbe : P.2.2.2.1 = nI nb) (hnb : nb ≤ 6) : ∀ (m k : Nat) (a : Int32), k + m = 2 ^ nb → Q (some (.int (iter (plStep x kk3 nb) m k a))) (W1 scr tl lt lc rd sw P D S kk nx ring bu im kept tb tr tc ts) → J g mX6_partLeaning 1 0 0 Q (W1 scr tl lt lc rd sw P D S kk nx ring bu im kept tb tr tc ts) 5 [some (.ref 1), some (.int x), some (.int kk3), some (.int a), some (.int (nI k)), none] [] := by
  have two := two_le hnb
  intro m
  induction m with
  | zero =>
    intro k a hk hq
    refine j_iload (pc := 5) dX6_partLeaning_5 rfl ?_
    refine j_aload_n (pc := 7) dX6_partLeaning_7 rfl ?_
    refine j_getf (pc := 8) dX6_partLeaning_8 fl_X6_30 (by apply lkE; (with_reducible first | exact lkX_1 | exact lkX_27 | exact lkX_p | exact lkX_34 | exact lkX_35 | exact lkX_107 | exact lkX_125 | exact lkX_127 | exact lkX_28 | exact lkX_30 | exact lkX_32 | exact lkX_p1 | exact lkX_p3 | exact lkX_p5 | exact lkX_p7 | exact lkX_p9 | exact lkX_2 | exact lkX_109 | exact lkX_4 | exact lkX_d); rfl) rfl ?_
    refine j_getf (pc := 11) dX6_partLeaning_11 fl_X6_237 (by apply lkE; (with_reducible first | exact lkX_1 | exact lkX_27 | exact lkX_p | exact lkX_34 | exact lkX_35 | exact lkX_107 | exact lkX_125 | exact lkX_127 | exact lkX_28 | exact lkX_30 | exact lkX_32 | exact lkX_p1 | exact lkX_p3 | exact lkX_p5 | exact lkX_p7 | exact lkX_p9 | exact lkX_2 | exact lkX_109 | exact lkX_4 | exact lkX_d); rfl) rfl ?_
    refine j_s1 (pc := 14) dX6_partLeaning_14 mc_X6_allOf ml_X6_195 sm_X6_allOf (by omega) (c_allOf) (Nat.le_of_ble_eq_true rfl) ?_
    refine j_icmp_gt (pc := 17) (tgt := 66) dX6_partLeaning_17 rfl (fun _ => ?_) (fun zc17 => absurd (by rw [hbe, allI_nI hnb]; exact nI_lt (by omega) (by omega)) zc17)
    refine j_iload_n (pc := 66) dX6_partLeaning_66 rfl ?_
    refine j_ireturn (pc := 67) dX6_partLeaning_67 rfl ?_
    exact hq
  | succ m ih =>
    intro k a hk hq
    refine j_iload (pc := 5) dX6_partLeaning_5 rfl ?_
    refine j_aload_n (pc := 7) dX6_partLeaning_7 rfl ?_
    refine j_getf (pc := 8) dX6_partLeaning_8 fl_X6_30 (by apply lkE; (with_reducible first | exact lkX_1 | exact lkX_27 | exact lkX_p | exact lkX_34 | exact lkX_35 | exact lkX_107 | exact lkX_125 | exact lkX_127 | exact lkX_28 | exact lkX_30 | exact lkX_32 | exact lkX_p1 | exact lkX_p3 | exact lkX_p5 | exact lkX_p7 | exact lkX_p9 | exact lkX_2 | exact lkX_109 | exact lkX_4 | exact lkX_d); rfl) rfl ?_
    refine j_getf (pc := 11) dX6_partLeaning_11 fl_X6_237 (by apply lkE; (with_reducible first | exact lkX_1 | exact lkX_27 | exact lkX_p | exact lkX_34 | exact lkX_35 | exact lkX_107 | exact lkX_125 | exact lkX_127 | exact lkX_28 | exact lkX_30 | exact lkX_32 | exact lkX_p1 | exact lkX_p3 | exact lkX_p5 | exact lkX_p7 | exact lkX_p9 | exact lkX_2 | exact lkX_109 | exact lkX_4 | exact lkX_d); rfl) rfl ?_
    refine j_s1 (pc := 14) dX6_partLeaning_14 mc_X6_allOf ml_X6_195 sm_X6_allOf (by omega) (c_allOf) (Nat.le_of_ble_eq_true rfl) ?_
    refine j_icmp_gt (pc := 17) (tgt := 66) dX6_partLeaning_17 rfl (fun zc17 => absurd zc17 (by rw [hbe, allI_nI hnb]; exact nI_nlt (by omega) (by omega))) (fun _ => ?_)
    refine j_iload (pc := 20) dX6_partLeaning_20 rfl ?_
    refine j_s1 (pc := 22) dX6_partLeaning_22 mc_J6_bitCount_0f7a4 ml_X6_181 sm_J6_bitCount_0f7a4 (by omega) (c_bitCount) (Nat.le_of_ble_eq_true rfl) ?_
    have hpo := popN_le hnb (show k < 2 ^ nb by omega)
    rw [bcI_nI (show k < 64 by omega)]
    refine j_istore (pc := 25) dX6_partLeaning_25 (Nat.le_of_ble_eq_true rfl) rfl ?_
    refine j_iload (pc := 27) dX6_partLeaning_27 rfl ?_
    refine j_iload_n (pc := 29) dX6_partLeaning_29 rfl ?_
    refine j_icmp_gt (pc := 30) (tgt := 60) dX6_partLeaning_30 rfl (fun zc30 => ?_) (fun zc30 => ?_)
    · refine j_iinc (pc := 60) dX6_partLeaning_60 rfl rfl (Nat.le_of_ble_eq_true rfl) rfl ?_
      refine j_goto (pc := 63) (tgt := 5) dX6_partLeaning_63 rfl ?_
      rw [nI_s]
      refine j_weak (ls' := [some _, some _, some _, some _, some _, none]) ⟨rfl, rfl, rfl, rfl, rfl, trivial⟩ ?_
      refine ih (k + 1) _ (by omega) ?_
      first
        | simpa [iter, plStep, *] using hq
        | (simp only [iter, plStep, *, ↓reduceIte, not_false_eq_true, Bool.false_eq_true] at hq; exact hq)
    · refine j_iload_n (pc := 33) dX6_partLeaning_33 rfl ?_
      refine j_iload_n (pc := 34) dX6_partLeaning_34 rfl ?_
      refine j_iload (pc := 35) dX6_partLeaning_35 rfl ?_
      refine j_s2 (pc := 37) dX6_partLeaning_37 mc_X6_power ml_X6_240 sm_X6_power (by omega) (c_power (by omega)) (Nat.le_of_ble_eq_true rfl) ?_
      refine j_bipush (pc := 40) dX6_partLeaning_40 kb_10 ?_
      refine j_iload_n (pc := 42) dX6_partLeaning_42 rfl ?_
      refine j_isub (pc := 43) dX6_partLeaning_43 ?_
      refine j_aload_n (pc := 44) dX6_partLeaning_44 rfl ?_
      refine j_getf (pc := 45) dX6_partLeaning_45 fl_X6_30 (by apply lkE; (with_reducible first | exact lkX_1 | exact lkX_27 | exact lkX_p | exact lkX_34 | exact lkX_35 | exact lkX_107 | exact lkX_125 | exact lkX_127 | exact lkX_28 | exact lkX_30 | exact lkX_32 | exact lkX_p1 | exact lkX_p3 | exact lkX_p5 | exact lkX_p7 | exact lkX_p9 | exact lkX_2 | exact lkX_109 | exact lkX_4 | exact lkX_d); rfl) rfl ?_
      refine j_getf (pc := 48) dX6_partLeaning_48 fl_X6_237 (by apply lkE; (with_reducible first | exact lkX_1 | exact lkX_27 | exact lkX_p | exact lkX_34 | exact lkX_35 | exact lkX_107 | exact lkX_125 | exact lkX_127 | exact lkX_28 | exact lkX_30 | exact lkX_32 | exact lkX_p1 | exact lkX_p3 | exact lkX_p5 | exact lkX_p7 | exact lkX_p9 | exact lkX_2 | exact lkX_109 | exact lkX_4 | exact lkX_d); rfl) rfl ?_
      refine j_iload (pc := 51) dX6_partLeaning_51 rfl ?_
      refine j_isub (pc := 53) dX6_partLeaning_53 ?_
      rw [hbe, pk_sub hpo]
      refine j_s2 (pc := 54) dX6_partLeaning_54 mc_X6_power ml_X6_240 sm_X6_power (by omega) (c_power (by omega)) (Nat.le_of_ble_eq_true rfl) ?_
      refine j_imul (pc := 57) dX6_partLeaning_57 ?_
      refine j_iadd (pc := 58) dX6_partLeaning_58 ?_
      refine j_istore_n (pc := 59) dX6_partLeaning_59 rfl (Nat.le_of_ble_eq_true rfl) rfl ?_
      refine j_iinc (pc := 60) dX6_partLeaning_60 rfl rfl (Nat.le_of_ble_eq_true rfl) rfl ?_
      refine j_goto (pc := 63) (tgt := 5) dX6_partLeaning_63 rfl ?_
      rw [nI_s]
      refine j_weak (ls' := [some _, some _, some _, some _, some _, none]) ⟨rfl, rfl, rfl, rfl, rfl, trivial⟩ ?_
      refine ih (k + 1) _ (by omega) ?_
      first
        | simpa [iter, plStep, *] using hq
        | (simp only [iter, plStep, *, ↓reduceIte, not_false_eq_true, Bool.false_eq_true] at hq; exact hq)

set_option maxRecDepth 20000 in
set_option maxHeartbeats 1000000 in
theorem x_part {x kk3 : Int32} {nb : Nat} (hbe : P.2.2.2.1 = nI nb) (hnb : nb ≤ 6) : CD g 1 mX6_partLeaning [.ref 1, .int x, .int kk3] (W1 scr tl lt lc rd sw P D S kk nx ring bu im kept tb tr tc ts) (some (.int (plI x kk3 nb))) (W1 scr tl lt lc rd sw P D S kk nx ring bu im kept tb tr tc ts) := by
  refine C.of (by decide +kernel) (by simp [Value.category]) (Nat.le_of_ble_eq_true rfl) ?_
  change J g mX6_partLeaning 1 0 0 _ (W1 scr tl lt lc rd sw P D S kk nx ring bu im kept tb tr tc ts) 0 [some (.ref 1), some (.int x), some (.int kk3), none, none, none] []
  refine j_iconst (pc := 0) dX6_partLeaning_0 kc_0 ?_
  refine j_istore_n (pc := 1) dX6_partLeaning_1 rfl (Nat.le_of_ble_eq_true rfl) rfl ?_
  refine j_iconst (pc := 2) dX6_partLeaning_2 kc_0 ?_
  refine j_istore (pc := 3) dX6_partLeaning_3 (Nat.le_of_ble_eq_true rfl) rfl ?_
  exact xl_part hbe hnb (2 ^ nb) 0 0 (by omega) ⟨rfl, rfl⟩

set_option maxRecDepth 20000 in
set_option maxHeartbeats 1000000 in
theorem l_cd {p0 w0 : Int32} : ∀ (m k : Nat) (l s z : Int32), k + m = 64 → Q (some (.int (imax 1 (cdL m l s)))) h → J g mX6_commonDivisor 1 0 0 Q h 7 [some (.int p0), some (.int w0), some (.int l), some (.int s), some (.int (nI k)), none] [] := by
  intro m
  induction m with
  | zero =>
    intro k l s z hk hq
    refine j_iload (pc := 7) dX6_commonDivisor_7 rfl ?_
    refine j_bipush (pc := 9) dX6_commonDivisor_9 kb_64 ?_
    refine j_icmp_ge (pc := 11) (tgt := 34) dX6_commonDivisor_11 rfl (fun _ => ?_) (fun zc11 => absurd (nI_le (a := 64) (b := k) (by omega) (by omega)) zc11)
    refine j_iconst (pc := 34) dX6_commonDivisor_34 kc_1 ?_
    refine j_iload_n (pc := 35) dX6_commonDivisor_35 rfl ?_
    refine j_max (pc := 36) dX6_commonDivisor_36 ml_X6_217 (by omega) (Nat.le_of_ble_eq_true rfl) ?_
    refine j_ireturn (pc := 39) dX6_commonDivisor_39 rfl ?_
    first | exact hq | simpa [cdL, *] using hq
  | succ m ih =>
    intro k l s z hk hq
    refine j_iload (pc := 7) dX6_commonDivisor_7 rfl ?_
    refine j_bipush (pc := 9) dX6_commonDivisor_9 kb_64 ?_
    refine j_icmp_ge (pc := 11) (tgt := 34) dX6_commonDivisor_11 rfl (fun zc11 => absurd zc11 (nI_ge (a := k) (b := 64) (by omega) (by omega))) (fun _ => ?_)
    refine j_iload_n (pc := 14) dX6_commonDivisor_14 rfl ?_
    refine j_if_le (pc := 15) (tgt := 34) dX6_commonDivisor_15 rfl (fun zc15 => ?_) (fun zc15 => ?_)
    · refine j_iconst (pc := 34) dX6_commonDivisor_34 kc_1 ?_
      refine j_iload_n (pc := 35) dX6_commonDivisor_35 rfl ?_
      refine j_max (pc := 36) dX6_commonDivisor_36 ml_X6_217 (by omega) (Nat.le_of_ble_eq_true rfl) ?_
      refine j_ireturn (pc := 39) dX6_commonDivisor_39 rfl ?_
      first | exact hq | simpa [cdL, *] using hq
    · refine j_iload_n (pc := 18) dX6_commonDivisor_18 rfl ?_
      refine j_iload_n (pc := 19) dX6_commonDivisor_19 rfl ?_
      refine j_irem (pc := 20) dX6_commonDivisor_20 (fun e => by rw [e] at zc15; exact zc15 (by decide)) ?_
      refine j_istore (pc := 21) dX6_commonDivisor_21 (Nat.le_of_ble_eq_true rfl) rfl ?_
      refine j_iload_n (pc := 23) dX6_commonDivisor_23 rfl ?_
      refine j_istore_n (pc := 24) dX6_commonDivisor_24 rfl (Nat.le_of_ble_eq_true rfl) rfl ?_
      refine j_iload (pc := 25) dX6_commonDivisor_25 rfl ?_
      refine j_istore_n (pc := 27) dX6_commonDivisor_27 rfl (Nat.le_of_ble_eq_true rfl) rfl ?_
      refine j_iinc (pc := 28) dX6_commonDivisor_28 rfl rfl (Nat.le_of_ble_eq_true rfl) rfl ?_
      refine j_goto (pc := 31) (tgt := 7) dX6_commonDivisor_31 rfl ?_
      rw [nI_s]
      refine j_weak (ls' := [some _, some _, some _, some _, some _, none]) ⟨rfl, rfl, rfl, rfl, rfl, trivial⟩ ?_
      refine ih (k + 1) _ _ 0 (by omega) ?_
      simpa [cdL, *] using hq

set_option maxRecDepth 20000 in
set_option maxHeartbeats 1000000 in
theorem c_cd {p0 w0 : Int32} : CD g 1 mX6_commonDivisor [.int p0, .int w0] h (some (.int (imax 1 (cdL 64 w0 p0)))) h := by
  refine C.of (by decide +kernel) (by simp [Value.category]) (Nat.le_of_ble_eq_true rfl) ?_
  change J g mX6_commonDivisor 1 0 0 _ h 0 [some (.int p0), some (.int w0), none, none, none, none] []
  refine j_iload_n (pc := 0) dX6_commonDivisor_0 rfl ?_
  refine j_istore_n (pc := 1) dX6_commonDivisor_1 rfl (Nat.le_of_ble_eq_true rfl) rfl ?_
  refine j_iload_n (pc := 2) dX6_commonDivisor_2 rfl ?_
  refine j_istore_n (pc := 3) dX6_commonDivisor_3 rfl (Nat.le_of_ble_eq_true rfl) rfl ?_
  refine j_iconst (pc := 4) dX6_commonDivisor_4 kc_0 ?_
  refine j_istore (pc := 5) dX6_commonDivisor_5 (Nat.le_of_ble_eq_true rfl) rfl ?_
  exact l_cd 64 0 w0 p0 0 (by omega) ⟨rfl, rfl⟩

def odI (x kk3 c : Int32) (nb : Nat) : Int32 := (if c = 0 then plI x kk3 nb else powI 10 nb 0 1) / imax 1 (cdL 64 (powI 10 nb 0 1) (plI x kk3 nb))
set_option maxRecDepth 20000 in
set_option maxHeartbeats 1000000 in
theorem x_odds {x kk3 c : Int32} {nb : Nat} (hbe : P.2.2.2.1 = nI nb) (hnb : nb ≤ 6) (h1 : (jin x 0 10 && jin kk3 0 6 && jin c 0 1) = false → Q (some (.int (-1))) (W1 scr tl lt lc rd sw P D S kk nx ring bu im kept tb tr tc ts)) (h2 : jin x 0 10 = true → jin kk3 0 6 = true → jin c 0 1 = true → Q (some (.int (odI x kk3 c nb))) (W1 scr tl lt lc rd sw P D S kk nx ring bu im kept tb tr tc ts)) : C g 2 0 0 mX6_odds [.ref 1, .int x, .int kk3, .int c] (W1 scr tl lt lc rd sw P D S kk nx ring bu im kept tb tr tc ts) Q := by
  refine C.of (by decide +kernel) (by simp [Value.category]) (Nat.le_of_ble_eq_true rfl) ?_
  change J g mX6_odds 2 0 0 _ (W1 scr tl lt lc rd sw P D S kk nx ring bu im kept tb tr tc ts) 0 [some (.ref 1), some (.int x), some (.int kk3), some (.int c), none, none, none] []
  refine j_iload_n (pc := 0) dX6_odds_0 rfl ?_
  refine j_iconst (pc := 1) dX6_odds_1 kc_0 ?_
  refine j_bipush (pc := 2) dX6_odds_2 kb_10 ?_
  refine j_s3 (pc := 4) dX6_odds_4 mc_X6_isWithin ml_X6_71 sm_X6_isWithin (by omega) (c_isWithin) (Nat.le_of_ble_eq_true rfl) ?_
  refine j_beq (pc := 7) (tgt := 29) dX6_odds_7 rfl (fun zc7 => ?_) (fun zc7 => ?_)
  · refine j_iconst (pc := 29) dX6_odds_29 kc_m1 ?_
    refine j_ireturn (pc := 30) dX6_odds_30 rfl ?_
    exact h1 (by simp [*])
  · refine j_iload_n (pc := 10) dX6_odds_10 rfl ?_
    refine j_iconst (pc := 11) dX6_odds_11 kc_0 ?_
    refine j_bipush (pc := 12) dX6_odds_12 kb_6 ?_
    refine j_s3 (pc := 14) dX6_odds_14 mc_X6_isWithin ml_X6_71 sm_X6_isWithin (by omega) (c_isWithin) (Nat.le_of_ble_eq_true rfl) ?_
    refine j_beq (pc := 17) (tgt := 29) dX6_odds_17 rfl (fun zc17 => ?_) (fun zc17 => ?_)
    · refine j_iconst (pc := 29) dX6_odds_29 kc_m1 ?_
      refine j_ireturn (pc := 30) dX6_odds_30 rfl ?_
      exact h1 (by simp [*])
    · refine j_iload_n (pc := 20) dX6_odds_20 rfl ?_
      refine j_iconst (pc := 21) dX6_odds_21 kc_0 ?_
      refine j_iconst (pc := 22) dX6_odds_22 kc_1 ?_
      refine j_s3 (pc := 23) dX6_odds_23 mc_X6_isWithin ml_X6_71 sm_X6_isWithin (by omega) (c_isWithin) (Nat.le_of_ble_eq_true rfl) ?_
      refine j_bne (pc := 26) (tgt := 31) dX6_odds_26 rfl (fun zc26 => ?_) (fun zc26 => ?_)
      · refine j_aload_n (pc := 31) dX6_odds_31 rfl ?_
        refine j_iload_n (pc := 32) dX6_odds_32 rfl ?_
        refine j_iload_n (pc := 33) dX6_odds_33 rfl ?_
        refine j_v2 (pc := 34) (ci := 6) dX6_odds_34 mc_X6_partLeaning ml_X6_234 im_X6_partLeaning se_X6_partLeaning rfl rfl (by apply lkE; (with_reducible first | exact lkX_1 | exact lkX_27 | exact lkX_p | exact lkX_34 | exact lkX_35 | exact lkX_107 | exact lkX_125 | exact lkX_127 | exact lkX_28 | exact lkX_30 | exact lkX_32 | exact lkX_p1 | exact lkX_p3 | exact lkX_p5 | exact lkX_p7 | exact lkX_p9 | exact lkX_2 | exact lkX_109 | exact lkX_4 | exact lkX_d); rfl) (by omega) (x_part hbe hnb) (Nat.le_of_ble_eq_true rfl) ?_
        refine j_istore (pc := 37) dX6_odds_37 (Nat.le_of_ble_eq_true rfl) rfl ?_
        refine j_bipush (pc := 39) dX6_odds_39 kb_10 ?_
        refine j_aload_n (pc := 41) dX6_odds_41 rfl ?_
        refine j_getf (pc := 42) dX6_odds_42 fl_X6_30 (by apply lkE; (with_reducible first | exact lkX_1 | exact lkX_27 | exact lkX_p | exact lkX_34 | exact lkX_35 | exact lkX_107 | exact lkX_125 | exact lkX_127 | exact lkX_28 | exact lkX_30 | exact lkX_32 | exact lkX_p1 | exact lkX_p3 | exact lkX_p5 | exact lkX_p7 | exact lkX_p9 | exact lkX_2 | exact lkX_109 | exact lkX_4 | exact lkX_d); rfl) rfl ?_
        refine j_getf (pc := 45) dX6_odds_45 fl_X6_237 (by apply lkE; (with_reducible first | exact lkX_1 | exact lkX_27 | exact lkX_p | exact lkX_34 | exact lkX_35 | exact lkX_107 | exact lkX_125 | exact lkX_127 | exact lkX_28 | exact lkX_30 | exact lkX_32 | exact lkX_p1 | exact lkX_p3 | exact lkX_p5 | exact lkX_p7 | exact lkX_p9 | exact lkX_2 | exact lkX_109 | exact lkX_4 | exact lkX_d); rfl) rfl ?_
        rw [hbe]
        refine j_s2 (pc := 48) dX6_odds_48 mc_X6_power ml_X6_240 sm_X6_power (by omega) (c_power (by omega)) (Nat.le_of_ble_eq_true rfl) ?_
        refine j_istore (pc := 51) dX6_odds_51 (Nat.le_of_ble_eq_true rfl) rfl ?_
        refine j_iload (pc := 53) dX6_odds_53 rfl ?_
        refine j_iload (pc := 55) dX6_odds_55 rfl ?_
        refine j_s2 (pc := 57) dX6_odds_57 mc_X6_commonDivisor ml_X6_243 sm_X6_commonDivisor (by omega) (c_cd) (Nat.le_of_ble_eq_true rfl) ?_
        refine j_istore (pc := 60) dX6_odds_60 (Nat.le_of_ble_eq_true rfl) rfl ?_
        refine j_iload_n (pc := 62) dX6_odds_62 rfl ?_
        refine j_if_ne (pc := 63) (tgt := 71) dX6_odds_63 rfl (fun zc63 => ?_) (fun zc63 => ?_)
        · refine j_iload (pc := 71) dX6_odds_71 rfl ?_
          refine j_iload (pc := 73) dX6_odds_73 rfl ?_
          refine j_idiv (pc := 75) dX6_odds_75 (imax1 _) ?_
          refine j_ireturn (pc := 76) dX6_odds_76 rfl ?_
          simpa [odI, *] using h2 zc7 zc17 zc26
        · refine j_iload (pc := 66) dX6_odds_66 rfl ?_
          refine j_goto (pc := 68) (tgt := 73) dX6_odds_68 rfl ?_
          refine j_iload (pc := 73) dX6_odds_73 rfl ?_
          refine j_idiv (pc := 75) dX6_odds_75 (imax1 _) ?_
          refine j_ireturn (pc := 76) dX6_odds_76 rfl ?_
          simpa [odI, *] using h2 zc7 zc17 zc26
      · refine j_iconst (pc := 29) dX6_odds_29 kc_m1 ?_
        refine j_ireturn (pc := 30) dX6_odds_30 rfl ?_
        exact h1 (by simp [*])

set_option maxRecDepth 20000 in
set_option maxHeartbeats 1000000 in
theorem x_rDeed {i : Int32} : CD g 1 mX6_rateAsDeed [.ref 1, .int i] (W1 scr tl lt lc rd sw P D S kk nx ring bu im kept tb tr tc ts) (some (.int (rAt 6 P.2.2.2.2.2.2.1 i))) (W1 scr tl lt lc rd sw P D S kk nx ring bu im kept tb tr tc (ts + 1)) := by
  refine C.of (by decide +kernel) (by simp [Value.category]) (Nat.le_of_ble_eq_true rfl) ?_
  change J g mX6_rateAsDeed 1 0 0 _ (W1 scr tl lt lc rd sw P D S kk nx ring bu im kept tb tr tc ts) 0 [some (.ref 1), some (.int i)] []
  refine j_aload_n (pc := 0) dX6_rateAsDeed_0 rfl ?_
  refine j_dup (pc := 1) dX6_rateAsDeed_1 rfl ?_
  refine j_getf (pc := 2) dX6_rateAsDeed_2 fl_X6_274 (by apply lkE; (with_reducible first | exact lkX_1 | exact lkX_27 | exact lkX_p | exact lkX_34 | exact lkX_35 | exact lkX_107 | exact lkX_125 | exact lkX_127 | exact lkX_28 | exact lkX_30 | exact lkX_32 | exact lkX_p1 | exact lkX_p3 | exact lkX_p5 | exact lkX_p7 | exact lkX_p9 | exact lkX_2 | exact lkX_109 | exact lkX_4 | exact lkX_d); rfl) rfl ?_
  refine j_lconst (pc := 5) (v := 1) dX6_rateAsDeed_5 rfl ?_
  refine j_ladd (pc := 6) dX6_rateAsDeed_6 ?_
  refine j_putf (pc := 7) dX6_rateAsDeed_7 fl_X6_274 (jfit_l _) (by apply lkE; (with_reducible first | exact lkX_1 | exact lkX_27 | exact lkX_p | exact lkX_34 | exact lkX_35 | exact lkX_107 | exact lkX_125 | exact lkX_127 | exact lkX_28 | exact lkX_30 | exact lkX_32 | exact lkX_p1 | exact lkX_p3 | exact lkX_p5 | exact lkX_p7 | exact lkX_p9 | exact lkX_2 | exact lkX_109 | exact lkX_4 | exact lkX_d); rfl) upX_1 ?_
  refine j_aload_n (pc := 10) dX6_rateAsDeed_10 rfl ?_
  refine j_getf (pc := 11) dX6_rateAsDeed_11 fl_X6_30 (by apply lkE; (with_reducible first | exact lkX_1 | exact lkX_27 | exact lkX_p | exact lkX_34 | exact lkX_35 | exact lkX_107 | exact lkX_125 | exact lkX_127 | exact lkX_28 | exact lkX_30 | exact lkX_32 | exact lkX_p1 | exact lkX_p3 | exact lkX_p5 | exact lkX_p7 | exact lkX_p9 | exact lkX_2 | exact lkX_109 | exact lkX_4 | exact lkX_d); rfl) rfl ?_
  refine j_getf (pc := 14) dX6_rateAsDeed_14 fl_X6_104 (by apply lkE; (with_reducible first | exact lkX_1 | exact lkX_27 | exact lkX_p | exact lkX_34 | exact lkX_35 | exact lkX_107 | exact lkX_125 | exact lkX_127 | exact lkX_28 | exact lkX_30 | exact lkX_32 | exact lkX_p1 | exact lkX_p3 | exact lkX_p5 | exact lkX_p7 | exact lkX_p9 | exact lkX_2 | exact lkX_109 | exact lkX_4 | exact lkX_d); rfl) rfl ?_
  refine j_iload_n (pc := 17) dX6_rateAsDeed_17 rfl ?_
  refine j_v1 (pc := 18) (ci := 3) dX6_rateAsDeed_18 mc_X3_at ml_X6_107 im_X3_at se_X3_at rfl rfl (by apply lkE; (with_reducible first | exact lkX_1 | exact lkX_27 | exact lkX_p | exact lkX_34 | exact lkX_35 | exact lkX_107 | exact lkX_125 | exact lkX_127 | exact lkX_28 | exact lkX_30 | exact lkX_32 | exact lkX_p1 | exact lkX_p3 | exact lkX_p5 | exact lkX_p7 | exact lkX_p9 | exact lkX_2 | exact lkX_109 | exact lkX_4 | exact lkX_d); rfl) (by omega) (c_at (n := 6) (by decide) (by apply lkE; (with_reducible first | exact lkX_p1); rfl) (by apply lkE; (with_reducible first | exact lkX_p2); rfl)) (Nat.le_of_ble_eq_true rfl) ?_
  refine j_ireturn (pc := 21) dX6_rateAsDeed_21 rfl ?_
  exact ⟨rfl, rfl⟩

def dbI (P : ParV) (S : ScV) (n : Nat) (i : Int32) : Int32 := rAt 6 P.2.2.2.2.2.2.1 i + bcI (iter (wdStep S i) n 0 0)
def liI (P : ParV) (S : ScV) (i : Int32) : Int32 := rAt 6 P.2.2.2.2.2.2.1 i - S.2.2.1
set_option maxRecDepth 20000 in
set_option maxHeartbeats 1000000 in
theorem x_rDebt {i : Int32} {n : Nat} (hdd : P.2.2.1 = nI n) (hn : n ≤ 6) : CD g 4 mX6_rateAsDebt [.ref 1, .int i] (W1 scr tl lt lc rd sw P D S kk nx ring bu im kept tb tr tc ts) (some (.int (dbI P S n i))) (W1 scr tl lt lc rd sw P D S kk nx ring bu im kept tb tr tc (ts + 10 + 1)) := by
  refine C.of (by decide +kernel) (by simp [Value.category]) (Nat.le_of_ble_eq_true rfl) ?_
  change J g mX6_rateAsDebt 4 0 0 _ (W1 scr tl lt lc rd sw P D S kk nx ring bu im kept tb tr tc ts) 0 [some (.ref 1), some (.int i)] []
  refine j_aload_n (pc := 0) dX6_rateAsDebt_0 rfl ?_
  refine j_dup (pc := 1) dX6_rateAsDebt_1 rfl ?_
  refine j_getf (pc := 2) dX6_rateAsDebt_2 fl_X6_274 (by apply lkE; (with_reducible first | exact lkX_1 | exact lkX_27 | exact lkX_p | exact lkX_34 | exact lkX_35 | exact lkX_107 | exact lkX_125 | exact lkX_127 | exact lkX_28 | exact lkX_30 | exact lkX_32 | exact lkX_p1 | exact lkX_p3 | exact lkX_p5 | exact lkX_p7 | exact lkX_p9 | exact lkX_2 | exact lkX_109 | exact lkX_4 | exact lkX_d); rfl) rfl ?_
  refine j_ldc2 (pc := 5) dX6_rateAsDebt_5 ck_X6_307 ?_
  refine j_ladd (pc := 8) dX6_rateAsDebt_8 ?_
  refine j_putf (pc := 9) dX6_rateAsDebt_9 fl_X6_274 (jfit_l _) (by apply lkE; (with_reducible first | exact lkX_1 | exact lkX_27 | exact lkX_p | exact lkX_34 | exact lkX_35 | exact lkX_107 | exact lkX_125 | exact lkX_127 | exact lkX_28 | exact lkX_30 | exact lkX_32 | exact lkX_p1 | exact lkX_p3 | exact lkX_p5 | exact lkX_p7 | exact lkX_p9 | exact lkX_2 | exact lkX_109 | exact lkX_4 | exact lkX_d); rfl) upX_1 ?_
  refine j_aload_n (pc := 12) dX6_rateAsDebt_12 rfl ?_
  refine j_iload_n (pc := 13) dX6_rateAsDebt_13 rfl ?_
  refine j_v1 (pc := 14) (ci := 6) dX6_rateAsDebt_14 mc_X6_rateAsDeed ml_X6_246 im_X6_rateAsDeed se_X6_rateAsDeed rfl rfl (by apply lkE; (with_reducible first | exact lkX_1 | exact lkX_27 | exact lkX_p | exact lkX_34 | exact lkX_35 | exact lkX_107 | exact lkX_125 | exact lkX_127 | exact lkX_28 | exact lkX_30 | exact lkX_32 | exact lkX_p1 | exact lkX_p3 | exact lkX_p5 | exact lkX_p7 | exact lkX_p9 | exact lkX_2 | exact lkX_109 | exact lkX_4 | exact lkX_d); rfl) (by omega) (x_rDeed) (Nat.le_of_ble_eq_true rfl) ?_
  refine j_aload_n (pc := 17) dX6_rateAsDebt_17 rfl ?_
  refine j_iload_n (pc := 18) dX6_rateAsDebt_18 rfl ?_
  refine j_v1 (pc := 19) (ci := 6) dX6_rateAsDebt_19 mc_X6_whoDid ml_X6_111 im_X6_whoDid se_X6_whoDid rfl rfl (by apply lkE; (with_reducible first | exact lkX_1 | exact lkX_27 | exact lkX_p | exact lkX_34 | exact lkX_35 | exact lkX_107 | exact lkX_125 | exact lkX_127 | exact lkX_28 | exact lkX_30 | exact lkX_32 | exact lkX_p1 | exact lkX_p3 | exact lkX_p5 | exact lkX_p7 | exact lkX_p9 | exact lkX_2 | exact lkX_109 | exact lkX_4 | exact lkX_d); rfl) (by omega) (x_whoDid hdd hn) (Nat.le_of_ble_eq_true rfl) ?_
  refine j_s1 (pc := 22) dX6_rateAsDebt_22 mc_J6_bitCount_0f7a4 ml_X6_181 sm_J6_bitCount_0f7a4 (by omega) (c_bitCount) (Nat.le_of_ble_eq_true rfl) ?_
  refine j_iadd (pc := 25) dX6_rateAsDebt_25 ?_
  refine j_ireturn (pc := 26) dX6_rateAsDebt_26 rfl ?_
  exact ⟨rfl, rfl⟩

set_option maxRecDepth 20000 in
set_option maxHeartbeats 1000000 in
theorem x_rLie {i : Int32} : CD g 2 mX6_rateAsLie [.ref 1, .int i] (W1 scr tl lt lc rd sw P D S kk nx ring bu im kept tb tr tc ts) (some (.int (liI P S i))) (W1 scr tl lt lc rd sw P D S kk nx ring bu im kept tb tr tc (ts + 100 + 1)) := by
  refine C.of (by decide +kernel) (by simp [Value.category]) (Nat.le_of_ble_eq_true rfl) ?_
  change J g mX6_rateAsLie 2 0 0 _ (W1 scr tl lt lc rd sw P D S kk nx ring bu im kept tb tr tc ts) 0 [some (.ref 1), some (.int i)] []
  refine j_aload_n (pc := 0) dX6_rateAsLie_0 rfl ?_
  refine j_dup (pc := 1) dX6_rateAsLie_1 rfl ?_
  refine j_getf (pc := 2) dX6_rateAsLie_2 fl_X6_274 (by apply lkE; (with_reducible first | exact lkX_1 | exact lkX_27 | exact lkX_p | exact lkX_34 | exact lkX_35 | exact lkX_107 | exact lkX_125 | exact lkX_127 | exact lkX_28 | exact lkX_30 | exact lkX_32 | exact lkX_p1 | exact lkX_p3 | exact lkX_p5 | exact lkX_p7 | exact lkX_p9 | exact lkX_2 | exact lkX_109 | exact lkX_4 | exact lkX_d); rfl) rfl ?_
  refine j_ldc2 (pc := 5) dX6_rateAsLie_5 ck_X6_309 ?_
  refine j_ladd (pc := 8) dX6_rateAsLie_8 ?_
  refine j_putf (pc := 9) dX6_rateAsLie_9 fl_X6_274 (jfit_l _) (by apply lkE; (with_reducible first | exact lkX_1 | exact lkX_27 | exact lkX_p | exact lkX_34 | exact lkX_35 | exact lkX_107 | exact lkX_125 | exact lkX_127 | exact lkX_28 | exact lkX_30 | exact lkX_32 | exact lkX_p1 | exact lkX_p3 | exact lkX_p5 | exact lkX_p7 | exact lkX_p9 | exact lkX_2 | exact lkX_109 | exact lkX_4 | exact lkX_d); rfl) upX_1 ?_
  refine j_aload_n (pc := 12) dX6_rateAsLie_12 rfl ?_
  refine j_iload_n (pc := 13) dX6_rateAsLie_13 rfl ?_
  refine j_v1 (pc := 14) (ci := 6) dX6_rateAsLie_14 mc_X6_rateAsDeed ml_X6_246 im_X6_rateAsDeed se_X6_rateAsDeed rfl rfl (by apply lkE; (with_reducible first | exact lkX_1 | exact lkX_27 | exact lkX_p | exact lkX_34 | exact lkX_35 | exact lkX_107 | exact lkX_125 | exact lkX_127 | exact lkX_28 | exact lkX_30 | exact lkX_32 | exact lkX_p1 | exact lkX_p3 | exact lkX_p5 | exact lkX_p7 | exact lkX_p9 | exact lkX_2 | exact lkX_109 | exact lkX_4 | exact lkX_d); rfl) (by omega) (x_rDeed) (Nat.le_of_ble_eq_true rfl) ?_
  refine j_aload_n (pc := 17) dX6_rateAsLie_17 rfl ?_
  refine j_getf (pc := 18) dX6_rateAsLie_18 fl_X6_40 (by apply lkE; (with_reducible first | exact lkX_1 | exact lkX_27 | exact lkX_p | exact lkX_34 | exact lkX_35 | exact lkX_107 | exact lkX_125 | exact lkX_127 | exact lkX_28 | exact lkX_30 | exact lkX_32 | exact lkX_p1 | exact lkX_p3 | exact lkX_p5 | exact lkX_p7 | exact lkX_p9 | exact lkX_2 | exact lkX_109 | exact lkX_4 | exact lkX_d); rfl) rfl ?_
  refine j_getf (pc := 21) dX6_rateAsLie_21 fl_X6_153 (by apply lkE; (with_reducible first | exact lkX_1 | exact lkX_27 | exact lkX_p | exact lkX_34 | exact lkX_35 | exact lkX_107 | exact lkX_125 | exact lkX_127 | exact lkX_28 | exact lkX_30 | exact lkX_32 | exact lkX_p1 | exact lkX_p3 | exact lkX_p5 | exact lkX_p7 | exact lkX_p9 | exact lkX_2 | exact lkX_109 | exact lkX_4 | exact lkX_d); rfl) rfl ?_
  refine j_isub (pc := 24) dX6_rateAsLie_24 ?_
  refine j_ireturn (pc := 25) dX6_rateAsLie_25 rfl ?_
  exact ⟨rfl, rfl⟩

set_option maxRecDepth 20000 in
set_option maxHeartbeats 1000000 in
theorem x_rOath {i : Int32} {n : Nat} (hdd : P.2.2.1 = nI n) (hn : n ≤ 6) : CD g 5 mX6_rateAsOath [.ref 1, .int i] (W1 scr tl lt lc rd sw P D S kk nx ring bu im kept tb tr tc ts) (some (.int (2 * dbI P S n i))) (W1 scr tl lt lc rd sw P D S kk nx ring bu im kept tb tr tc (ts + 1000 + 10 + 1)) := by
  refine C.of (by decide +kernel) (by simp [Value.category]) (Nat.le_of_ble_eq_true rfl) ?_
  change J g mX6_rateAsOath 5 0 0 _ (W1 scr tl lt lc rd sw P D S kk nx ring bu im kept tb tr tc ts) 0 [some (.ref 1), some (.int i)] []
  refine j_aload_n (pc := 0) dX6_rateAsOath_0 rfl ?_
  refine j_dup (pc := 1) dX6_rateAsOath_1 rfl ?_
  refine j_getf (pc := 2) dX6_rateAsOath_2 fl_X6_274 (by apply lkE; (with_reducible first | exact lkX_1 | exact lkX_27 | exact lkX_p | exact lkX_34 | exact lkX_35 | exact lkX_107 | exact lkX_125 | exact lkX_127 | exact lkX_28 | exact lkX_30 | exact lkX_32 | exact lkX_p1 | exact lkX_p3 | exact lkX_p5 | exact lkX_p7 | exact lkX_p9 | exact lkX_2 | exact lkX_109 | exact lkX_4 | exact lkX_d); rfl) rfl ?_
  refine j_ldc2 (pc := 5) dX6_rateAsOath_5 ck_X6_311 ?_
  refine j_ladd (pc := 8) dX6_rateAsOath_8 ?_
  refine j_putf (pc := 9) dX6_rateAsOath_9 fl_X6_274 (jfit_l _) (by apply lkE; (with_reducible first | exact lkX_1 | exact lkX_27 | exact lkX_p | exact lkX_34 | exact lkX_35 | exact lkX_107 | exact lkX_125 | exact lkX_127 | exact lkX_28 | exact lkX_30 | exact lkX_32 | exact lkX_p1 | exact lkX_p3 | exact lkX_p5 | exact lkX_p7 | exact lkX_p9 | exact lkX_2 | exact lkX_109 | exact lkX_4 | exact lkX_d); rfl) upX_1 ?_
  refine j_iconst (pc := 12) dX6_rateAsOath_12 kc_2 ?_
  refine j_aload_n (pc := 13) dX6_rateAsOath_13 rfl ?_
  refine j_iload_n (pc := 14) dX6_rateAsOath_14 rfl ?_
  refine j_v1 (pc := 15) (ci := 6) dX6_rateAsOath_15 mc_X6_rateAsDebt ml_X6_249 im_X6_rateAsDebt se_X6_rateAsDebt rfl rfl (by apply lkE; (with_reducible first | exact lkX_1 | exact lkX_27 | exact lkX_p | exact lkX_34 | exact lkX_35 | exact lkX_107 | exact lkX_125 | exact lkX_127 | exact lkX_28 | exact lkX_30 | exact lkX_32 | exact lkX_p1 | exact lkX_p3 | exact lkX_p5 | exact lkX_p7 | exact lkX_p9 | exact lkX_2 | exact lkX_109 | exact lkX_4 | exact lkX_d); rfl) (by omega) (x_rDebt hdd hn) (Nat.le_of_ble_eq_true rfl) ?_
  refine j_imul (pc := 18) dX6_rateAsOath_18 ?_
  refine j_ireturn (pc := 19) dX6_rateAsOath_19 rfl ?_
  exact ⟨rfl, rfl⟩

set_option maxRecDepth 20000 in
set_option maxHeartbeats 1000000 in
theorem x_rKiss {i : Int32} : CD g 3 mX6_rateAsKiss [.ref 1, .int i] (W1 scr tl lt lc rd sw P D S kk nx ring bu im kept tb tr tc ts) (some (.int (liI P S i + i))) (W1 scr tl lt lc rd sw P D S kk nx ring bu im kept tb tr tc (ts + 10000 + 100 + 1)) := by
  refine C.of (by decide +kernel) (by simp [Value.category]) (Nat.le_of_ble_eq_true rfl) ?_
  change J g mX6_rateAsKiss 3 0 0 _ (W1 scr tl lt lc rd sw P D S kk nx ring bu im kept tb tr tc ts) 0 [some (.ref 1), some (.int i)] []
  refine j_aload_n (pc := 0) dX6_rateAsKiss_0 rfl ?_
  refine j_dup (pc := 1) dX6_rateAsKiss_1 rfl ?_
  refine j_getf (pc := 2) dX6_rateAsKiss_2 fl_X6_274 (by apply lkE; (with_reducible first | exact lkX_1 | exact lkX_27 | exact lkX_p | exact lkX_34 | exact lkX_35 | exact lkX_107 | exact lkX_125 | exact lkX_127 | exact lkX_28 | exact lkX_30 | exact lkX_32 | exact lkX_p1 | exact lkX_p3 | exact lkX_p5 | exact lkX_p7 | exact lkX_p9 | exact lkX_2 | exact lkX_109 | exact lkX_4 | exact lkX_d); rfl) rfl ?_
  refine j_ldc2 (pc := 5) dX6_rateAsKiss_5 ck_X6_313 ?_
  refine j_ladd (pc := 8) dX6_rateAsKiss_8 ?_
  refine j_putf (pc := 9) dX6_rateAsKiss_9 fl_X6_274 (jfit_l _) (by apply lkE; (with_reducible first | exact lkX_1 | exact lkX_27 | exact lkX_p | exact lkX_34 | exact lkX_35 | exact lkX_107 | exact lkX_125 | exact lkX_127 | exact lkX_28 | exact lkX_30 | exact lkX_32 | exact lkX_p1 | exact lkX_p3 | exact lkX_p5 | exact lkX_p7 | exact lkX_p9 | exact lkX_2 | exact lkX_109 | exact lkX_4 | exact lkX_d); rfl) upX_1 ?_
  refine j_aload_n (pc := 12) dX6_rateAsKiss_12 rfl ?_
  refine j_iload_n (pc := 13) dX6_rateAsKiss_13 rfl ?_
  refine j_v1 (pc := 14) (ci := 6) dX6_rateAsKiss_14 mc_X6_rateAsLie ml_X6_252 im_X6_rateAsLie se_X6_rateAsLie rfl rfl (by apply lkE; (with_reducible first | exact lkX_1 | exact lkX_27 | exact lkX_p | exact lkX_34 | exact lkX_35 | exact lkX_107 | exact lkX_125 | exact lkX_127 | exact lkX_28 | exact lkX_30 | exact lkX_32 | exact lkX_p1 | exact lkX_p3 | exact lkX_p5 | exact lkX_p7 | exact lkX_p9 | exact lkX_2 | exact lkX_109 | exact lkX_4 | exact lkX_d); rfl) (by omega) (x_rLie) (Nat.le_of_ble_eq_true rfl) ?_
  refine j_iload_n (pc := 17) dX6_rateAsKiss_17 rfl ?_
  refine j_iadd (pc := 18) dX6_rateAsKiss_18 ?_
  refine j_ireturn (pc := 19) dX6_rateAsKiss_19 rfl ?_
  exact ⟨rfl, rfl⟩

set_option maxRecDepth 20000 in
set_option maxHeartbeats 1000000 in
theorem x_rTheft {i : Int32} : CD g 2 mX6_rateAsTheft [.ref 1, .int i] (W1 scr tl lt lc rd sw P D S kk nx ring bu im kept tb tr tc ts) (some (.int (rAt 6 P.2.2.2.2.2.2.1 i + S.1))) (W1 scr tl lt lc rd sw P D S kk nx ring bu im kept tb tr tc (ts + 100000 + 1)) := by
  refine C.of (by decide +kernel) (by simp [Value.category]) (Nat.le_of_ble_eq_true rfl) ?_
  change J g mX6_rateAsTheft 2 0 0 _ (W1 scr tl lt lc rd sw P D S kk nx ring bu im kept tb tr tc ts) 0 [some (.ref 1), some (.int i)] []
  refine j_aload_n (pc := 0) dX6_rateAsTheft_0 rfl ?_
  refine j_dup (pc := 1) dX6_rateAsTheft_1 rfl ?_
  refine j_getf (pc := 2) dX6_rateAsTheft_2 fl_X6_274 (by apply lkE; (with_reducible first | exact lkX_1 | exact lkX_27 | exact lkX_p | exact lkX_34 | exact lkX_35 | exact lkX_107 | exact lkX_125 | exact lkX_127 | exact lkX_28 | exact lkX_30 | exact lkX_32 | exact lkX_p1 | exact lkX_p3 | exact lkX_p5 | exact lkX_p7 | exact lkX_p9 | exact lkX_2 | exact lkX_109 | exact lkX_4 | exact lkX_d); rfl) rfl ?_
  refine j_ldc2 (pc := 5) dX6_rateAsTheft_5 ck_X6_315 ?_
  refine j_ladd (pc := 8) dX6_rateAsTheft_8 ?_
  refine j_putf (pc := 9) dX6_rateAsTheft_9 fl_X6_274 (jfit_l _) (by apply lkE; (with_reducible first | exact lkX_1 | exact lkX_27 | exact lkX_p | exact lkX_34 | exact lkX_35 | exact lkX_107 | exact lkX_125 | exact lkX_127 | exact lkX_28 | exact lkX_30 | exact lkX_32 | exact lkX_p1 | exact lkX_p3 | exact lkX_p5 | exact lkX_p7 | exact lkX_p9 | exact lkX_2 | exact lkX_109 | exact lkX_4 | exact lkX_d); rfl) upX_1 ?_
  refine j_aload_n (pc := 12) dX6_rateAsTheft_12 rfl ?_
  refine j_iload_n (pc := 13) dX6_rateAsTheft_13 rfl ?_
  refine j_v1 (pc := 14) (ci := 6) dX6_rateAsTheft_14 mc_X6_rateAsDeed ml_X6_246 im_X6_rateAsDeed se_X6_rateAsDeed rfl rfl (by apply lkE; (with_reducible first | exact lkX_1 | exact lkX_27 | exact lkX_p | exact lkX_34 | exact lkX_35 | exact lkX_107 | exact lkX_125 | exact lkX_127 | exact lkX_28 | exact lkX_30 | exact lkX_32 | exact lkX_p1 | exact lkX_p3 | exact lkX_p5 | exact lkX_p7 | exact lkX_p9 | exact lkX_2 | exact lkX_109 | exact lkX_4 | exact lkX_d); rfl) (by omega) (x_rDeed) (Nat.le_of_ble_eq_true rfl) ?_
  refine j_aload_n (pc := 17) dX6_rateAsTheft_17 rfl ?_
  refine j_getf (pc := 18) dX6_rateAsTheft_18 fl_X6_40 (by apply lkE; (with_reducible first | exact lkX_1 | exact lkX_27 | exact lkX_p | exact lkX_34 | exact lkX_35 | exact lkX_107 | exact lkX_125 | exact lkX_127 | exact lkX_28 | exact lkX_30 | exact lkX_32 | exact lkX_p1 | exact lkX_p3 | exact lkX_p5 | exact lkX_p7 | exact lkX_p9 | exact lkX_2 | exact lkX_109 | exact lkX_4 | exact lkX_d); rfl) rfl ?_
  refine j_getf (pc := 21) dX6_rateAsTheft_21 fl_X6_147 (by apply lkE; (with_reducible first | exact lkX_1 | exact lkX_27 | exact lkX_p | exact lkX_34 | exact lkX_35 | exact lkX_107 | exact lkX_125 | exact lkX_127 | exact lkX_28 | exact lkX_30 | exact lkX_32 | exact lkX_p1 | exact lkX_p3 | exact lkX_p5 | exact lkX_p7 | exact lkX_p9 | exact lkX_2 | exact lkX_109 | exact lkX_4 | exact lkX_d); rfl) rfl ?_
  refine j_iadd (pc := 24) dX6_rateAsTheft_24 ?_
  refine j_ireturn (pc := 25) dX6_rateAsTheft_25 rfl ?_
  exact ⟨rfl, rfl⟩

def rtI (P : ParV) (S : ScV) (n : Nat) (kd i : Int32) : Int32 := if kd = 0 then rAt 6 P.2.2.2.2.2.2.1 i else if kd = 1 then dbI P S n i else if kd = 2 then liI P S i else if kd = 3 then 2 * dbI P S n i else if kd = 4 then liI P S i + i else rAt 6 P.2.2.2.2.2.2.1 i + S.1
def rtT (kd : Int32) : Int64 := if kd = 0 then 1 else if kd = 1 then 11 else if kd = 2 then 101 else if kd = 3 then 1011 else if kd = 4 then 10101 else 100001
theorem jin05 {k : Int32} (h : k.toInt < 0 ∨ 5 < k.toInt) : jin k 0 5 = false := by
  rcases h with h | h
  · have h2 : k < 0 := Int32.lt_iff_toInt_lt.mpr h
    simp only [jin, h2, not_true_eq_false, decide_false, Bool.false_and]
  · have h2 : 5 < k := Int32.lt_iff_toInt_lt.mpr h
    simp only [jin, h2, not_true_eq_false, decide_false, Bool.and_false]
set_option maxRecDepth 20000 in
set_option maxHeartbeats 1000000 in
theorem x_rate {kd i : Int32} {n : Nat} (hdd : P.2.2.1 = nI n) (hn : n ≤ 6) (h1 : (jin kd 0 5 && jlt i P.2.1) = false → Q (some (.int (-1000000))) (W1 scr tl lt lc rd sw P D S kk nx ring bu im kept tb tr tc ts)) (h2 : jin kd 0 5 = true → jlt i P.2.1 = true → Q (some (.int (rtI P S n kd i))) (W1 scr tl lt lc rd sw P D S kk nx ring bu im kept tb tr tc (ts + rtT kd))) : C g 6 0 0 mX6_rate [.ref 1, .int kd, .int i] (W1 scr tl lt lc rd sw P D S kk nx ring bu im kept tb tr tc ts) Q := by
  refine C.of (by decide +kernel) (by simp [Value.category]) (Nat.le_of_ble_eq_true rfl) ?_
  change J g mX6_rate 6 0 0 _ (W1 scr tl lt lc rd sw P D S kk nx ring bu im kept tb tr tc ts) 0 [some (.ref 1), some (.int kd), some (.int i)] []
  refine j_aload_n (pc := 0) dX6_rate_0 rfl ?_
  refine j_getf (pc := 1) dX6_rate_1 fl_X6_30 (by apply lkE; (with_reducible first | exact lkX_1 | exact lkX_27 | exact lkX_p | exact lkX_34 | exact lkX_35 | exact lkX_107 | exact lkX_125 | exact lkX_127 | exact lkX_28 | exact lkX_30 | exact lkX_32 | exact lkX_p1 | exact lkX_p3 | exact lkX_p5 | exact lkX_p7 | exact lkX_p9 | exact lkX_2 | exact lkX_109 | exact lkX_4 | exact lkX_d); rfl) rfl ?_
  refine j_iload_n (pc := 4) dX6_rate_4 rfl ?_
  refine j_v1 (pc := 5) (ci := 1) dX6_rate_5 mc_X1_hasDeed ml_X6_99 im_X1_hasDeed se_X1_hasDeed rfl rfl (by apply lkE; (with_reducible first | exact lkX_1 | exact lkX_27 | exact lkX_p | exact lkX_34 | exact lkX_35 | exact lkX_107 | exact lkX_125 | exact lkX_127 | exact lkX_28 | exact lkX_30 | exact lkX_32 | exact lkX_p1 | exact lkX_p3 | exact lkX_p5 | exact lkX_p7 | exact lkX_p9 | exact lkX_2 | exact lkX_109 | exact lkX_4 | exact lkX_d); rfl) (by omega) (c_hasDeed (by apply lkE; (with_reducible first | exact lkX_p); rfl)) (Nat.le_of_ble_eq_true rfl) ?_
  refine j_bne (pc := 8) (tgt := 14) dX6_rate_8 rfl (fun zc8 => ?_) (fun zc8 => ?_)
  · refine j_iload_n (pc := 14) dX6_rate_14 rfl ?_
    by_cases zs15 : (kd).toInt < 0 ∨ 5 < (kd).toInt
    · refine j_tableOut (pc := 15) (tgt := 88) dX6_rate_15 zs15 rfl ?_
      refine j_ldc (pc := 88) dX6_rate_88 ck_X6_103 ?_
      refine j_ireturn (pc := 90) dX6_rate_90 rfl ?_
      exact h1 (by simp [jin05 zs15])
    by_cases zs15_0 : kd = 0
    · refine j_tableIn (pc := 15) (off := 37) (tgt := 52) dX6_rate_15 (by rw [zs15_0]; decide) (by rw [zs15_0]; decide) (by rw [zs15_0]; decide) rfl ?_
      refine j_aload_n (pc := 52) dX6_rate_52 rfl ?_
      refine j_iload_n (pc := 53) dX6_rate_53 rfl ?_
      refine j_v1 (pc := 54) (ci := 6) dX6_rate_54 mc_X6_rateAsDeed ml_X6_246 im_X6_rateAsDeed se_X6_rateAsDeed rfl rfl (by apply lkE; (with_reducible first | exact lkX_1 | exact lkX_27 | exact lkX_p | exact lkX_34 | exact lkX_35 | exact lkX_107 | exact lkX_125 | exact lkX_127 | exact lkX_28 | exact lkX_30 | exact lkX_32 | exact lkX_p1 | exact lkX_p3 | exact lkX_p5 | exact lkX_p7 | exact lkX_p9 | exact lkX_2 | exact lkX_109 | exact lkX_4 | exact lkX_d); rfl) (by omega) (x_rDeed) (Nat.le_of_ble_eq_true rfl) ?_
      refine j_ireturn (pc := 57) dX6_rate_57 rfl ?_
      subst zs15_0
      have z := h2 rfl zc8
      simpa [rtI, rtT, Int64.add_assoc] using z
    by_cases zs15_1 : kd = 1
    · refine j_tableIn (pc := 15) (off := 43) (tgt := 58) dX6_rate_15 (by rw [zs15_1]; decide) (by rw [zs15_1]; decide) (by rw [zs15_1]; decide) rfl ?_
      refine j_aload_n (pc := 58) dX6_rate_58 rfl ?_
      refine j_iload_n (pc := 59) dX6_rate_59 rfl ?_
      refine j_v1 (pc := 60) (ci := 6) dX6_rate_60 mc_X6_rateAsDebt ml_X6_249 im_X6_rateAsDebt se_X6_rateAsDebt rfl rfl (by apply lkE; (with_reducible first | exact lkX_1 | exact lkX_27 | exact lkX_p | exact lkX_34 | exact lkX_35 | exact lkX_107 | exact lkX_125 | exact lkX_127 | exact lkX_28 | exact lkX_30 | exact lkX_32 | exact lkX_p1 | exact lkX_p3 | exact lkX_p5 | exact lkX_p7 | exact lkX_p9 | exact lkX_2 | exact lkX_109 | exact lkX_4 | exact lkX_d); rfl) (by omega) (x_rDebt hdd hn) (Nat.le_of_ble_eq_true rfl) ?_
      refine j_ireturn (pc := 63) dX6_rate_63 rfl ?_
      subst zs15_1
      have z := h2 rfl zc8
      simpa [rtI, rtT, Int64.add_assoc] using z
    by_cases zs15_2 : kd = 2
    · refine j_tableIn (pc := 15) (off := 49) (tgt := 64) dX6_rate_15 (by rw [zs15_2]; decide) (by rw [zs15_2]; decide) (by rw [zs15_2]; decide) rfl ?_
      refine j_aload_n (pc := 64) dX6_rate_64 rfl ?_
      refine j_iload_n (pc := 65) dX6_rate_65 rfl ?_
      refine j_v1 (pc := 66) (ci := 6) dX6_rate_66 mc_X6_rateAsLie ml_X6_252 im_X6_rateAsLie se_X6_rateAsLie rfl rfl (by apply lkE; (with_reducible first | exact lkX_1 | exact lkX_27 | exact lkX_p | exact lkX_34 | exact lkX_35 | exact lkX_107 | exact lkX_125 | exact lkX_127 | exact lkX_28 | exact lkX_30 | exact lkX_32 | exact lkX_p1 | exact lkX_p3 | exact lkX_p5 | exact lkX_p7 | exact lkX_p9 | exact lkX_2 | exact lkX_109 | exact lkX_4 | exact lkX_d); rfl) (by omega) (x_rLie) (Nat.le_of_ble_eq_true rfl) ?_
      refine j_ireturn (pc := 69) dX6_rate_69 rfl ?_
      subst zs15_2
      have z := h2 rfl zc8
      simpa [rtI, rtT, Int64.add_assoc] using z
    by_cases zs15_3 : kd = 3
    · refine j_tableIn (pc := 15) (off := 55) (tgt := 70) dX6_rate_15 (by rw [zs15_3]; decide) (by rw [zs15_3]; decide) (by rw [zs15_3]; decide) rfl ?_
      refine j_aload_n (pc := 70) dX6_rate_70 rfl ?_
      refine j_iload_n (pc := 71) dX6_rate_71 rfl ?_
      refine j_v1 (pc := 72) (ci := 6) dX6_rate_72 mc_X6_rateAsOath ml_X6_255 im_X6_rateAsOath se_X6_rateAsOath rfl rfl (by apply lkE; (with_reducible first | exact lkX_1 | exact lkX_27 | exact lkX_p | exact lkX_34 | exact lkX_35 | exact lkX_107 | exact lkX_125 | exact lkX_127 | exact lkX_28 | exact lkX_30 | exact lkX_32 | exact lkX_p1 | exact lkX_p3 | exact lkX_p5 | exact lkX_p7 | exact lkX_p9 | exact lkX_2 | exact lkX_109 | exact lkX_4 | exact lkX_d); rfl) (by omega) (x_rOath hdd hn) (Nat.le_of_ble_eq_true rfl) ?_
      refine j_ireturn (pc := 75) dX6_rate_75 rfl ?_
      subst zs15_3
      have z := h2 rfl zc8
      simpa [rtI, rtT, Int64.add_assoc] using z
    by_cases zs15_4 : kd = 4
    · refine j_tableIn (pc := 15) (off := 61) (tgt := 76) dX6_rate_15 (by rw [zs15_4]; decide) (by rw [zs15_4]; decide) (by rw [zs15_4]; decide) rfl ?_
      refine j_aload_n (pc := 76) dX6_rate_76 rfl ?_
      refine j_iload_n (pc := 77) dX6_rate_77 rfl ?_
      refine j_v1 (pc := 78) (ci := 6) dX6_rate_78 mc_X6_rateAsKiss ml_X6_258 im_X6_rateAsKiss se_X6_rateAsKiss rfl rfl (by apply lkE; (with_reducible first | exact lkX_1 | exact lkX_27 | exact lkX_p | exact lkX_34 | exact lkX_35 | exact lkX_107 | exact lkX_125 | exact lkX_127 | exact lkX_28 | exact lkX_30 | exact lkX_32 | exact lkX_p1 | exact lkX_p3 | exact lkX_p5 | exact lkX_p7 | exact lkX_p9 | exact lkX_2 | exact lkX_109 | exact lkX_4 | exact lkX_d); rfl) (by omega) (x_rKiss) (Nat.le_of_ble_eq_true rfl) ?_
      refine j_ireturn (pc := 81) dX6_rate_81 rfl ?_
      subst zs15_4
      have z := h2 rfl zc8
      simpa [rtI, rtT, Int64.add_assoc] using z
    by_cases zs15_5 : kd = 5
    · refine j_tableIn (pc := 15) (off := 67) (tgt := 82) dX6_rate_15 (by rw [zs15_5]; decide) (by rw [zs15_5]; decide) (by rw [zs15_5]; decide) rfl ?_
      refine j_aload_n (pc := 82) dX6_rate_82 rfl ?_
      refine j_iload_n (pc := 83) dX6_rate_83 rfl ?_
      refine j_v1 (pc := 84) (ci := 6) dX6_rate_84 mc_X6_rateAsTheft ml_X6_261 im_X6_rateAsTheft se_X6_rateAsTheft rfl rfl (by apply lkE; (with_reducible first | exact lkX_1 | exact lkX_27 | exact lkX_p | exact lkX_34 | exact lkX_35 | exact lkX_107 | exact lkX_125 | exact lkX_127 | exact lkX_28 | exact lkX_30 | exact lkX_32 | exact lkX_p1 | exact lkX_p3 | exact lkX_p5 | exact lkX_p7 | exact lkX_p9 | exact lkX_2 | exact lkX_109 | exact lkX_4 | exact lkX_d); rfl) (by omega) (x_rTheft) (Nat.le_of_ble_eq_true rfl) ?_
      refine j_ireturn (pc := 87) dX6_rate_87 rfl ?_
      subst zs15_5
      have z := h2 rfl zc8
      simpa [rtI, rtT, Int64.add_assoc] using z
    exfalso
    have zt15_0 : ¬ (kd).toInt = 0 := fun e => zs15_0 (Int32.toInt_inj.mp (e.trans (by decide)))
    have zt15_1 : ¬ (kd).toInt = 1 := fun e => zs15_1 (Int32.toInt_inj.mp (e.trans (by decide)))
    have zt15_2 : ¬ (kd).toInt = 2 := fun e => zs15_2 (Int32.toInt_inj.mp (e.trans (by decide)))
    have zt15_3 : ¬ (kd).toInt = 3 := fun e => zs15_3 (Int32.toInt_inj.mp (e.trans (by decide)))
    have zt15_4 : ¬ (kd).toInt = 4 := fun e => zs15_4 (Int32.toInt_inj.mp (e.trans (by decide)))
    have zt15_5 : ¬ (kd).toInt = 5 := fun e => zs15_5 (Int32.toInt_inj.mp (e.trans (by decide)))
    omega
  · refine j_ldc (pc := 11) dX6_rate_11 ck_X6_103 ?_
    refine j_ireturn (pc := 13) dX6_rate_13 rfl ?_
    exact h1 (by simp [*])

end

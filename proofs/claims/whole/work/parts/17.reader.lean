/-! the class's reader: tokens -/
section
variable {g : GG} {h : List AC} {Q : Option Value → List AC → Prop} {scr : AC} {tl : List AC} {lt : Fn} {lc : Int32} {rd : RdV} {sw : Bool} {P : ParV} {D : ParV} {S : ScV} {kk : Int32} {nx : Int32} {ring : Nat → ScV} {bu : Fn} {im : Nat → ScV} {kept : Int32} {tb : Fn} {tr : Fn} {tc : Int32} {ts : Int64}
/-- a reader: start, behind, token, value; wrong, pinTold, rustTold -/
abbrev PSt : Type := Nat × Nat × Int32 × Int32 × Bool × Bool × Bool
def rdOf (L : Nat) (s : PSt) : RdV := (nI L, nI s.1, nI s.2.1, s.2.2.1, s.2.2.2.1, s.2.2.2.2.1, s.2.2.2.2.2.1, s.2.2.2.2.2.2)
def skR (lt : Fn) : Nat → Nat → Nat
  | 0, b => b
  | m + 1, b => if lt b = 32 then skR lt m (b + 1) else b
def dgt (c : Int32) : Bool := jin c 48 57
def sgn (c : Int32) : Bool := decide (c = 100) || decide (c = 108) || decide (c = 98) || decide (c = 112) || decide (c = 114) || decide (c = 59)
def nmR (lt : Fn) : Nat → Nat → Int32 → Nat × Int32
  | 0, b, v => (b, v)
  | m + 1, b, v => if dgt (lt b) then nmR lt m (b + 1) (10 * v + lt b - 48) else (b, v)
theorem nmR_ge (lt : Fn) : ∀ (m b : Nat) (v : Int32), b ≤ (nmR lt m b v).1 ∧ (nmR lt m b v).1 ≤ b + m
  | 0, b, v => ⟨Nat.le_refl _, Nat.le_refl _⟩
  | m + 1, b, v => by
    unfold nmR
    split
    · have := nmR_ge lt m (b + 1) (10 * v + lt b - 48)
      omega
    · exact ⟨Nat.le_refl _, by omega⟩
theorem skR_ge (lt : Fn) : ∀ (m b : Nat), b ≤ skR lt m b ∧ skR lt m b ≤ b + m
  | 0, b => ⟨Nat.le_refl _, Nat.le_refl _⟩
  | m + 1, b => by
    unfold skR
    split
    · have := skR_ge lt m (b + 1)
      omega
    · exact ⟨Nat.le_refl _, by omega⟩
def plR (lt : Fn) (p q : Nat) : Bool := decide (nI (q - p) = 1) || (decide (nI (q - p) = 2) && decide (¬ lt p = 48))
def tkR (lt : Fn) (L bh : Nat) (vl : Int32) : Nat × Nat × Int32 × Int32 :=
  if L ≤ skR lt (L - bh) bh then (skR lt (L - bh) bh, skR lt (L - bh) bh, 0, vl)
  else if dgt (lt (skR lt (L - bh) bh)) then
    (skR lt (L - bh) bh, (nmR lt (L - skR lt (L - bh) bh) (skR lt (L - bh) bh) 0).1, (if plR lt (skR lt (L - bh) bh) (nmR lt (L - skR lt (L - bh) bh) (skR lt (L - bh) bh) 0).1 then 1 else 2), (nmR lt (L - skR lt (L - bh) bh) (skR lt (L - bh) bh) 0).2)
  else (skR lt (L - bh) bh, skR lt (L - bh) bh + 1, (if sgn (lt (skR lt (L - bh) bh)) then lt (skR lt (L - bh) bh) else 2), vl)
def tkS (lt : Fn) (L : Nat) (s : PSt) : PSt := ((tkR lt L s.2.1 s.2.2.2.1).1, (tkR lt L s.2.1 s.2.2.2.1).2.1, (tkR lt L s.2.1 s.2.2.2.1).2.2.1, (tkR lt L s.2.1 s.2.2.2.1).2.2.2, s.2.2.2.2.1, s.2.2.2.2.2.1, s.2.2.2.2.2.2)
def wrS (s : PSt) : PSt := (s.1, s.2.1, s.2.2.1, s.2.2.2.1, true, s.2.2.2.2.2.1, s.2.2.2.2.2.2)
set_option maxRecDepth 20000 in
set_option maxHeartbeats 200000 in
theorem c_isDigit {c : Int32} : CD g 0 mX2_isDigit [.int c] h (some (.int (b2i (dgt c)))) h := by
  refine C.of (by decide +kernel) (by simp [Value.category]) (Nat.le_of_ble_eq_true rfl) ?_
  change J g mX2_isDigit 0 0 0 _ h 0 [some (.int c)] []
  refine j_iload_n (pc := 0) dX2_isDigit_0 rfl ?_
  refine j_bipush (pc := 1) dX2_isDigit_1 kb_48 ?_
  refine j_icmp_lt (pc := 3) (tgt := 16) dX2_isDigit_3 rfl (fun zc3 => ?_) (fun zc3 => ?_)
  · refine j_iconst (pc := 16) dX2_isDigit_16 kc_0 ?_
    refine j_zret (pc := 17) (b := dgt c) dX2_isDigit_17 rfl (by simp [dgt, jin, b2i, *]) ?_
    exact ⟨rfl, rfl⟩
  · refine j_iload_n (pc := 6) dX2_isDigit_6 rfl ?_
    refine j_bipush (pc := 7) dX2_isDigit_7 kb_57 ?_
    refine j_icmp_gt (pc := 9) (tgt := 16) dX2_isDigit_9 rfl (fun zc9 => ?_) (fun zc9 => ?_)
    · refine j_iconst (pc := 16) dX2_isDigit_16 kc_0 ?_
      refine j_zret (pc := 17) (b := dgt c) dX2_isDigit_17 rfl (by simp [dgt, jin, b2i, *]) ?_
      exact ⟨rfl, rfl⟩
    · refine j_iconst (pc := 12) dX2_isDigit_12 kc_1 ?_
      refine j_goto (pc := 13) (tgt := 17) dX2_isDigit_13 rfl ?_
      refine j_zret (pc := 17) (b := dgt c) dX2_isDigit_17 rfl (by simp [dgt, jin, b2i, *]) ?_
      exact ⟨rfl, rfl⟩

set_option maxRecDepth 20000 in
set_option maxHeartbeats 200000 in
theorem c_isSign {c : Int32} : CD g 0 mX2_isSign [.int c] h (some (.int (b2i (sgn c)))) h := by
  refine C.of (by decide +kernel) (by simp [Value.category]) (Nat.le_of_ble_eq_true rfl) ?_
  change J g mX2_isSign 0 0 0 _ h 0 [some (.int c)] []
  refine j_iload_n (pc := 0) dX2_isSign_0 rfl ?_
  refine j_bipush (pc := 1) dX2_isSign_1 kb_100 ?_
  refine j_icmp_eq (pc := 3) (tgt := 36) dX2_isSign_3 rfl (fun zc3 => ?_) (fun zc3 => ?_)
  · refine j_iconst (pc := 36) dX2_isSign_36 kc_1 ?_
    refine j_goto (pc := 37) (tgt := 41) dX2_isSign_37 rfl ?_
    refine j_zret (pc := 41) (b := sgn c) dX2_isSign_41 rfl (by simp [sgn, b2i, *]) ?_
    exact ⟨rfl, rfl⟩
  · refine j_iload_n (pc := 6) dX2_isSign_6 rfl ?_
    refine j_bipush (pc := 7) dX2_isSign_7 kb_108 ?_
    refine j_icmp_eq (pc := 9) (tgt := 36) dX2_isSign_9 rfl (fun zc9 => ?_) (fun zc9 => ?_)
    · refine j_iconst (pc := 36) dX2_isSign_36 kc_1 ?_
      refine j_goto (pc := 37) (tgt := 41) dX2_isSign_37 rfl ?_
      refine j_zret (pc := 41) (b := sgn c) dX2_isSign_41 rfl (by simp [sgn, b2i, *]) ?_
      exact ⟨rfl, rfl⟩
    · refine j_iload_n (pc := 12) dX2_isSign_12 rfl ?_
      refine j_bipush (pc := 13) dX2_isSign_13 kb_98 ?_
      refine j_icmp_eq (pc := 15) (tgt := 36) dX2_isSign_15 rfl (fun zc15 => ?_) (fun zc15 => ?_)
      · refine j_iconst (pc := 36) dX2_isSign_36 kc_1 ?_
        refine j_goto (pc := 37) (tgt := 41) dX2_isSign_37 rfl ?_
        refine j_zret (pc := 41) (b := sgn c) dX2_isSign_41 rfl (by simp [sgn, b2i, *]) ?_
        exact ⟨rfl, rfl⟩
      · refine j_iload_n (pc := 18) dX2_isSign_18 rfl ?_
        refine j_bipush (pc := 19) dX2_isSign_19 kb_112 ?_
        refine j_icmp_eq (pc := 21) (tgt := 36) dX2_isSign_21 rfl (fun zc21 => ?_) (fun zc21 => ?_)
        · refine j_iconst (pc := 36) dX2_isSign_36 kc_1 ?_
          refine j_goto (pc := 37) (tgt := 41) dX2_isSign_37 rfl ?_
          refine j_zret (pc := 41) (b := sgn c) dX2_isSign_41 rfl (by simp [sgn, b2i, *]) ?_
          exact ⟨rfl, rfl⟩
        · refine j_iload_n (pc := 24) dX2_isSign_24 rfl ?_
          refine j_bipush (pc := 25) dX2_isSign_25 kb_114 ?_
          refine j_icmp_eq (pc := 27) (tgt := 36) dX2_isSign_27 rfl (fun zc27 => ?_) (fun zc27 => ?_)
          · refine j_iconst (pc := 36) dX2_isSign_36 kc_1 ?_
            refine j_goto (pc := 37) (tgt := 41) dX2_isSign_37 rfl ?_
            refine j_zret (pc := 41) (b := sgn c) dX2_isSign_41 rfl (by simp [sgn, b2i, *]) ?_
            exact ⟨rfl, rfl⟩
          · refine j_iload_n (pc := 30) dX2_isSign_30 rfl ?_
            refine j_bipush (pc := 31) dX2_isSign_31 kb_59 ?_
            refine j_icmp_ne (pc := 33) (tgt := 40) dX2_isSign_33 rfl (fun zc33 => ?_) (fun zc33 => ?_)
            · refine j_iconst (pc := 40) dX2_isSign_40 kc_0 ?_
              refine j_zret (pc := 41) (b := sgn c) dX2_isSign_41 rfl (by simp [sgn, b2i, *]) ?_
              exact ⟨rfl, rfl⟩
            · refine j_iconst (pc := 36) dX2_isSign_36 kc_1 ?_
              refine j_goto (pc := 37) (tgt := 41) dX2_isSign_37 rfl ?_
              refine j_zret (pc := 41) (b := sgn c) dX2_isSign_41 rfl (by simp [sgn, b2i, *]) ?_
              exact ⟨rfl, rfl⟩

set_option maxRecDepth 20000 in
set_option maxHeartbeats 200000 in
theorem xl_num {L : Nat} (hL : L ≤ 150) {p : Nat} {tk : Int32} {w1 w2 w3 : Bool} : ∀ (m b : Nat) (v : Int32), b + m = L → J g mX2_stepNumber 1 0 0 Q (W1 scr tl lt lc (nI L, nI p, nI (nmR lt m b v).1, tk, (nmR lt m b v).2, w1, w2, w3) sw P D S kk nx ring bu im kept tb tr tc ts) 72 [some (.ref 4), none, none] [] → J g mX2_stepNumber 1 0 0 Q (W1 scr tl lt lc (nI L, nI p, nI b, tk, v, w1, w2, w3) sw P D S kk nx ring bu im kept tb tr tc ts) 5 [some (.ref 4), none, none] [] := by
  intro m
  induction m with
  | zero =>
    intro b v hk hq
    refine j_aload_n (pc := 5) dX2_stepNumber_5 rfl ?_
    refine j_getf (pc := 6) dX2_stepNumber_6 fl_X2_19 (by apply lkE; (with_reducible first | exact lkX_4e | exact lkX_2 | exact lkX_d | exact lkX_4); rfl) rfl ?_
    refine j_aload_n (pc := 9) dX2_stepNumber_9 rfl ?_
    refine j_getf (pc := 10) dX2_stepNumber_10 fl_X2_15 (by apply lkE; (with_reducible first | exact lkX_4e | exact lkX_2 | exact lkX_d | exact lkX_4); rfl) rfl ?_
    refine j_icmp_ge (pc := 13) (tgt := 72) dX2_stepNumber_13 rfl (fun _ => ?_) (fun zc13 => absurd (nI_le (a := L) (b := b) (by omega) (by omega)) zc13)
    first
      | exact hq
      | (rw [show nmR lt (m + 1) b v = (b, v) by simp [nmR, *]] at hq
         exact hq)
  | succ m ih =>
    intro b v hk hq
    refine j_aload_n (pc := 5) dX2_stepNumber_5 rfl ?_
    refine j_getf (pc := 6) dX2_stepNumber_6 fl_X2_19 (by apply lkE; (with_reducible first | exact lkX_4e | exact lkX_2 | exact lkX_d | exact lkX_4); rfl) rfl ?_
    refine j_aload_n (pc := 9) dX2_stepNumber_9 rfl ?_
    refine j_getf (pc := 10) dX2_stepNumber_10 fl_X2_15 (by apply lkE; (with_reducible first | exact lkX_4e | exact lkX_2 | exact lkX_d | exact lkX_4); rfl) rfl ?_
    refine j_icmp_ge (pc := 13) (tgt := 72) dX2_stepNumber_13 rfl (fun zc13 => absurd zc13 (nI_ge (a := b) (b := L) (by omega) (by omega))) (fun _ => ?_)
    refine j_aload_n (pc := 16) dX2_stepNumber_16 rfl ?_
    refine j_getf (pc := 17) dX2_stepNumber_17 fl_X2_9 (by apply lkE; (with_reducible first | exact lkX_4e | exact lkX_2 | exact lkX_d | exact lkX_4); rfl) rfl ?_
    refine j_aload_n (pc := 20) dX2_stepNumber_20 rfl ?_
    refine j_getf (pc := 21) dX2_stepNumber_21 fl_X2_19 (by apply lkE; (with_reducible first | exact lkX_4e | exact lkX_2 | exact lkX_d | exact lkX_4); rfl) rfl ?_
    refine j_v1 (pc := 24) (ci := 3) dX2_stepNumber_24 mc_X3_at ml_X2_129 im_X3_at se_X3_at rfl rfl (by apply lkE; (with_reducible first | exact lkX_4e | exact lkX_2 | exact lkX_d | exact lkX_4); rfl) (by omega) (c_at (n := 150) (by decide) lkX_2 lkX_3) (Nat.le_of_ble_eq_true rfl) ?_
    rw [rAt_in (show b < 150 by omega) (by decide)]
    refine j_s1 (pc := 27) dX2_stepNumber_27 mc_X2_isDigit ml_X2_134 sm_X2_isDigit (by omega) (c_isDigit) (Nat.le_of_ble_eq_true rfl) ?_
    refine j_beq (pc := 30) (tgt := 72) dX2_stepNumber_30 rfl (fun zc30 => ?_) (fun zc30 => ?_)
    · first
        | exact hq
        | (rw [show nmR lt (m + 1) b v = (b, v) by simp [nmR, *]] at hq
           exact hq)
    · refine j_aload_n (pc := 33) dX2_stepNumber_33 rfl ?_
      refine j_bipush (pc := 34) dX2_stepNumber_34 kb_10 ?_
      refine j_aload_n (pc := 36) dX2_stepNumber_36 rfl ?_
      refine j_getf (pc := 37) dX2_stepNumber_37 fl_X2_95 (by apply lkE; (with_reducible first | exact lkX_4e | exact lkX_2 | exact lkX_d | exact lkX_4); rfl) rfl ?_
      refine j_imul (pc := 40) dX2_stepNumber_40 ?_
      refine j_aload_n (pc := 41) dX2_stepNumber_41 rfl ?_
      refine j_getf (pc := 42) dX2_stepNumber_42 fl_X2_9 (by apply lkE; (with_reducible first | exact lkX_4e | exact lkX_2 | exact lkX_d | exact lkX_4); rfl) rfl ?_
      refine j_aload_n (pc := 45) dX2_stepNumber_45 rfl ?_
      refine j_getf (pc := 46) dX2_stepNumber_46 fl_X2_19 (by apply lkE; (with_reducible first | exact lkX_4e | exact lkX_2 | exact lkX_d | exact lkX_4); rfl) rfl ?_
      refine j_v1 (pc := 49) (ci := 3) dX2_stepNumber_49 mc_X3_at ml_X2_129 im_X3_at se_X3_at rfl rfl (by apply lkE; (with_reducible first | exact lkX_4e | exact lkX_2 | exact lkX_d | exact lkX_4); rfl) (by omega) (c_at (n := 150) (by decide) lkX_2 lkX_3) (Nat.le_of_ble_eq_true rfl) ?_
      rw [rAt_in (show b < 150 by omega) (by decide)]
      refine j_iadd (pc := 52) dX2_stepNumber_52 ?_
      refine j_bipush (pc := 53) dX2_stepNumber_53 kb_48 ?_
      refine j_isub (pc := 55) dX2_stepNumber_55 ?_
      refine j_putf (pc := 56) dX2_stepNumber_56 fl_X2_95 (jfit_i _) (by apply lkE; (with_reducible first | exact lkX_4e | exact lkX_2 | exact lkX_d | exact lkX_4); rfl) upX_4 ?_
      refine j_aload_n (pc := 59) dX2_stepNumber_59 rfl ?_
      refine j_dup (pc := 60) dX2_stepNumber_60 rfl ?_
      refine j_getf (pc := 61) dX2_stepNumber_61 fl_X2_19 (by apply lkE; (with_reducible first | exact lkX_4e | exact lkX_2 | exact lkX_d | exact lkX_4); rfl) rfl ?_
      refine j_iconst (pc := 64) dX2_stepNumber_64 kc_1 ?_
      refine j_iadd (pc := 65) dX2_stepNumber_65 ?_
      refine j_putf (pc := 66) dX2_stepNumber_66 fl_X2_19 (jfit_i _) (by apply lkE; (with_reducible first | exact lkX_4e | exact lkX_2 | exact lkX_d | exact lkX_4); rfl) upX_4 ?_
      refine j_goto (pc := 69) (tgt := 5) dX2_stepNumber_69 rfl ?_
      rw [nI_s1]
      refine ih (b + 1) _ (by omega) ?_
      rw [show nmR lt (m + 1) b v = nmR lt m (b + 1) (10 * v + lt b - 48) by simp [nmR, *]] at hq
      exact hq

set_option maxRecDepth 20000 in
set_option maxHeartbeats 200000 in
theorem x_stepNumber {L : Nat} (hL : L ≤ 150) {p : Nat} (hp : p < L) {tk vl : Int32} {w1 w2 w3 : Bool} : CD g 1 mX2_stepNumber [.ref 4] (W1 scr tl lt lc (nI L, nI p, nI p, tk, vl, w1, w2, w3) sw P D S kk nx ring bu im kept tb tr tc ts) none (W1 scr tl lt lc (nI L, nI p, nI (nmR lt (L - p) p 0).1, if plR lt p (nmR lt (L - p) p 0).1 then 1 else 2, (nmR lt (L - p) p 0).2, w1, w2, w3) sw P D S kk nx ring bu im kept tb tr tc ts) := by
  refine C.of (by decide +kernel) (by simp [Value.category]) (Nat.le_of_ble_eq_true rfl) ?_
  change J g mX2_stepNumber 1 0 0 _ (W1 scr tl lt lc (nI L, nI p, nI p, tk, vl, w1, w2, w3) sw P D S kk nx ring bu im kept tb tr tc ts) 0 [some (.ref 4), none, none] []
  refine j_aload_n (pc := 0) dX2_stepNumber_0 rfl ?_
  refine j_iconst (pc := 1) dX2_stepNumber_1 kc_0 ?_
  refine j_putf (pc := 2) dX2_stepNumber_2 fl_X2_95 (jfit_i _) (by apply lkE; (with_reducible first | exact lkX_4e | exact lkX_2 | exact lkX_d | exact lkX_4); rfl) upX_4 ?_
  refine xl_num hL (L - p) p 0 (by omega) ?_
  refine j_aload_n (pc := 72) dX2_stepNumber_72 rfl ?_
  refine j_getf (pc := 73) dX2_stepNumber_73 fl_X2_19 (by apply lkE; (with_reducible first | exact lkX_4e | exact lkX_2 | exact lkX_d | exact lkX_4); rfl) rfl ?_
  refine j_aload_n (pc := 76) dX2_stepNumber_76 rfl ?_
  refine j_getf (pc := 77) dX2_stepNumber_77 fl_X2_59 (by apply lkE; (with_reducible first | exact lkX_4e | exact lkX_2 | exact lkX_d | exact lkX_4); rfl) rfl ?_
  refine j_isub (pc := 80) dX2_stepNumber_80 ?_
  rw [pk_sub (nmR_ge lt (L - p) p 0).1]
  refine j_istore_n (pc := 81) dX2_stepNumber_81 rfl (Nat.le_of_ble_eq_true rfl) rfl ?_
  refine j_iload_n (pc := 82) dX2_stepNumber_82 rfl ?_
  refine j_iconst (pc := 83) dX2_stepNumber_83 kc_1 ?_
  refine j_icmp_eq (pc := 84) (tgt := 108) dX2_stepNumber_84 rfl (fun zc84 => ?_) (fun zc84 => ?_)
  · refine j_iconst (pc := 108) dX2_stepNumber_108 kc_1 ?_
    refine j_goto (pc := 109) (tgt := 113) dX2_stepNumber_109 rfl ?_
    refine j_istore_n (pc := 113) dX2_stepNumber_113 rfl (Nat.le_of_ble_eq_true rfl) rfl ?_
    refine j_aload_n (pc := 114) dX2_stepNumber_114 rfl ?_
    refine j_iload_n (pc := 115) dX2_stepNumber_115 rfl ?_
    refine j_if_eq (pc := 116) (tgt := 123) dX2_stepNumber_116 rfl (fun zc116 => absurd zc116 (show ¬ (1 : Int32) = 0 by decide)) (fun _ => ?_)
    refine j_iconst (pc := 119) dX2_stepNumber_119 kc_1 ?_
    refine j_goto (pc := 120) (tgt := 124) dX2_stepNumber_120 rfl ?_
    refine j_putf (pc := 124) dX2_stepNumber_124 fl_X2_40 (jfit_i _) (by apply lkE; (with_reducible first | exact lkX_4e | exact lkX_2 | exact lkX_d | exact lkX_4); rfl) upX_4 ?_
    refine j_return (pc := 127) dX2_stepNumber_127 rfl ?_
    exact ⟨rfl, by simp [plR, *]⟩
  · refine j_iload_n (pc := 87) dX2_stepNumber_87 rfl ?_
    refine j_iconst (pc := 88) dX2_stepNumber_88 kc_2 ?_
    refine j_icmp_ne (pc := 89) (tgt := 112) dX2_stepNumber_89 rfl (fun zc89 => ?_) (fun zc89 => ?_)
    · refine j_iconst (pc := 112) dX2_stepNumber_112 kc_0 ?_
      refine j_istore_n (pc := 113) dX2_stepNumber_113 rfl (Nat.le_of_ble_eq_true rfl) rfl ?_
      refine j_aload_n (pc := 114) dX2_stepNumber_114 rfl ?_
      refine j_iload_n (pc := 115) dX2_stepNumber_115 rfl ?_
      refine j_if_eq (pc := 116) (tgt := 123) dX2_stepNumber_116 rfl (fun _ => ?_) (fun zc116 => absurd (show (0 : Int32) = 0 by decide) zc116)
      refine j_iconst (pc := 123) dX2_stepNumber_123 kc_2 ?_
      refine j_putf (pc := 124) dX2_stepNumber_124 fl_X2_40 (jfit_i _) (by apply lkE; (with_reducible first | exact lkX_4e | exact lkX_2 | exact lkX_d | exact lkX_4); rfl) upX_4 ?_
      refine j_return (pc := 127) dX2_stepNumber_127 rfl ?_
      exact ⟨rfl, by simp [plR, *]⟩
    · refine j_aload_n (pc := 92) dX2_stepNumber_92 rfl ?_
      refine j_getf (pc := 93) dX2_stepNumber_93 fl_X2_9 (by apply lkE; (with_reducible first | exact lkX_4e | exact lkX_2 | exact lkX_d | exact lkX_4); rfl) rfl ?_
      refine j_aload_n (pc := 96) dX2_stepNumber_96 rfl ?_
      refine j_getf (pc := 97) dX2_stepNumber_97 fl_X2_59 (by apply lkE; (with_reducible first | exact lkX_4e | exact lkX_2 | exact lkX_d | exact lkX_4); rfl) rfl ?_
      refine j_v1 (pc := 100) (ci := 3) dX2_stepNumber_100 mc_X3_at ml_X2_129 im_X3_at se_X3_at rfl rfl (by apply lkE; (with_reducible first | exact lkX_4e | exact lkX_2 | exact lkX_d | exact lkX_4); rfl) (by omega) (c_at (n := 150) (by decide) lkX_2 lkX_3) (Nat.le_of_ble_eq_true rfl) ?_
      rw [rAt_in (show p < 150 by omega) (by decide)]
      refine j_bipush (pc := 103) dX2_stepNumber_103 kb_48 ?_
      refine j_icmp_eq (pc := 105) (tgt := 112) dX2_stepNumber_105 rfl (fun zc105 => ?_) (fun zc105 => ?_)
      · refine j_iconst (pc := 112) dX2_stepNumber_112 kc_0 ?_
        refine j_istore_n (pc := 113) dX2_stepNumber_113 rfl (Nat.le_of_ble_eq_true rfl) rfl ?_
        refine j_aload_n (pc := 114) dX2_stepNumber_114 rfl ?_
        refine j_iload_n (pc := 115) dX2_stepNumber_115 rfl ?_
        refine j_if_eq (pc := 116) (tgt := 123) dX2_stepNumber_116 rfl (fun _ => ?_) (fun zc116 => absurd (show (0 : Int32) = 0 by decide) zc116)
        refine j_iconst (pc := 123) dX2_stepNumber_123 kc_2 ?_
        refine j_putf (pc := 124) dX2_stepNumber_124 fl_X2_40 (jfit_i _) (by apply lkE; (with_reducible first | exact lkX_4e | exact lkX_2 | exact lkX_d | exact lkX_4); rfl) upX_4 ?_
        refine j_return (pc := 127) dX2_stepNumber_127 rfl ?_
        exact ⟨rfl, by simp [plR, *]⟩
      · refine j_iconst (pc := 108) dX2_stepNumber_108 kc_1 ?_
        refine j_goto (pc := 109) (tgt := 113) dX2_stepNumber_109 rfl ?_
        refine j_istore_n (pc := 113) dX2_stepNumber_113 rfl (Nat.le_of_ble_eq_true rfl) rfl ?_
        refine j_aload_n (pc := 114) dX2_stepNumber_114 rfl ?_
        refine j_iload_n (pc := 115) dX2_stepNumber_115 rfl ?_
        refine j_if_eq (pc := 116) (tgt := 123) dX2_stepNumber_116 rfl (fun zc116 => absurd zc116 (show ¬ (1 : Int32) = 0 by decide)) (fun _ => ?_)
        refine j_iconst (pc := 119) dX2_stepNumber_119 kc_1 ?_
        refine j_goto (pc := 120) (tgt := 124) dX2_stepNumber_120 rfl ?_
        refine j_putf (pc := 124) dX2_stepNumber_124 fl_X2_40 (jfit_i _) (by apply lkE; (with_reducible first | exact lkX_4e | exact lkX_2 | exact lkX_d | exact lkX_4); rfl) upX_4 ?_
        refine j_return (pc := 127) dX2_stepNumber_127 rfl ?_
        exact ⟨rfl, by simp [plR, *]⟩

set_option maxRecDepth 20000 in
set_option maxHeartbeats 200000 in
theorem xl_step {L : Nat} (hL : L ≤ 150) {sa : Int32} {tk vl : Int32} {w1 w2 w3 : Bool} : ∀ (m b : Nat), b + m = L → J g mX2_step 2 0 0 Q (W1 scr tl lt lc (nI L, sa, nI (skR lt m b), tk, vl, w1, w2, w3) sw P D S kk nx ring bu im kept tb tr tc ts) 40 [some (.ref 4)] [] → J g mX2_step 2 0 0 Q (W1 scr tl lt lc (nI L, sa, nI b, tk, vl, w1, w2, w3) sw P D S kk nx ring bu im kept tb tr tc ts) 0 [some (.ref 4)] [] := by
  intro m
  induction m with
  | zero =>
    intro b hk hq
    refine j_aload_n (pc := 0) dX2_step_0 rfl ?_
    refine j_getf (pc := 1) dX2_step_1 fl_X2_19 (by apply lkE; (with_reducible first | exact lkX_4e | exact lkX_2 | exact lkX_d | exact lkX_4); rfl) rfl ?_
    refine j_aload_n (pc := 4) dX2_step_4 rfl ?_
    refine j_getf (pc := 5) dX2_step_5 fl_X2_15 (by apply lkE; (with_reducible first | exact lkX_4e | exact lkX_2 | exact lkX_d | exact lkX_4); rfl) rfl ?_
    refine j_icmp_ge (pc := 8) (tgt := 40) dX2_step_8 rfl (fun _ => ?_) (fun zc8 => absurd (nI_le (a := L) (b := b) (by omega) (by omega)) zc8)
    first
      | exact hq
      | (rw [show skR lt (m + 1) b = b by simp [skR, *]] at hq
         exact hq)
  | succ m ih =>
    intro b hk hq
    refine j_aload_n (pc := 0) dX2_step_0 rfl ?_
    refine j_getf (pc := 1) dX2_step_1 fl_X2_19 (by apply lkE; (with_reducible first | exact lkX_4e | exact lkX_2 | exact lkX_d | exact lkX_4); rfl) rfl ?_
    refine j_aload_n (pc := 4) dX2_step_4 rfl ?_
    refine j_getf (pc := 5) dX2_step_5 fl_X2_15 (by apply lkE; (with_reducible first | exact lkX_4e | exact lkX_2 | exact lkX_d | exact lkX_4); rfl) rfl ?_
    refine j_icmp_ge (pc := 8) (tgt := 40) dX2_step_8 rfl (fun zc8 => absurd zc8 (nI_ge (a := b) (b := L) (by omega) (by omega))) (fun _ => ?_)
    refine j_aload_n (pc := 11) dX2_step_11 rfl ?_
    refine j_getf (pc := 12) dX2_step_12 fl_X2_9 (by apply lkE; (with_reducible first | exact lkX_4e | exact lkX_2 | exact lkX_d | exact lkX_4); rfl) rfl ?_
    refine j_aload_n (pc := 15) dX2_step_15 rfl ?_
    refine j_getf (pc := 16) dX2_step_16 fl_X2_19 (by apply lkE; (with_reducible first | exact lkX_4e | exact lkX_2 | exact lkX_d | exact lkX_4); rfl) rfl ?_
    refine j_v1 (pc := 19) (ci := 3) dX2_step_19 mc_X3_at ml_X2_129 im_X3_at se_X3_at rfl rfl (by apply lkE; (with_reducible first | exact lkX_4e | exact lkX_2 | exact lkX_d | exact lkX_4); rfl) (by omega) (c_at (n := 150) (by decide) lkX_2 lkX_3) (Nat.le_of_ble_eq_true rfl) ?_
    rw [rAt_in (show b < 150 by omega) (by decide)]
    refine j_bipush (pc := 22) dX2_step_22 kb_32 ?_
    refine j_icmp_ne (pc := 24) (tgt := 40) dX2_step_24 rfl (fun zc24 => ?_) (fun zc24 => ?_)
    · first
        | exact hq
        | (rw [show skR lt (m + 1) b = b by simp [skR, *]] at hq
           exact hq)
    · refine j_aload_n (pc := 27) dX2_step_27 rfl ?_
      refine j_dup (pc := 28) dX2_step_28 rfl ?_
      refine j_getf (pc := 29) dX2_step_29 fl_X2_19 (by apply lkE; (with_reducible first | exact lkX_4e | exact lkX_2 | exact lkX_d | exact lkX_4); rfl) rfl ?_
      refine j_iconst (pc := 32) dX2_step_32 kc_1 ?_
      refine j_iadd (pc := 33) dX2_step_33 ?_
      refine j_putf (pc := 34) dX2_step_34 fl_X2_19 (jfit_i _) (by apply lkE; (with_reducible first | exact lkX_4e | exact lkX_2 | exact lkX_d | exact lkX_4); rfl) upX_4 ?_
      refine j_goto (pc := 37) (tgt := 0) dX2_step_37 rfl ?_
      rw [nI_s1]
      refine ih (b + 1) (by omega) ?_
      rw [show skR lt (m + 1) b = skR lt m (b + 1) by simp [skR, *]] at hq
      exact hq

set_option maxRecDepth 20000 in
set_option maxHeartbeats 200000 in
theorem x_step0 {L : Nat} (hL : L ≤ 150) {sa : Int32} {bh : Nat} {tk vl : Int32} {w1 w2 w3 : Bool} (hb : bh ≤ L) : CD g 2 mX2_step [.ref 4] (W1 scr tl lt lc (nI L, sa, nI bh, tk, vl, w1, w2, w3) sw P D S kk nx ring bu im kept tb tr tc ts) none (W1 scr tl lt lc (nI L, nI (tkR lt L bh vl).1, nI (tkR lt L bh vl).2.1, (tkR lt L bh vl).2.2.1, (tkR lt L bh vl).2.2.2, w1, w2, w3) sw P D S kk nx ring bu im kept tb tr tc ts) := by
  refine C.of (by decide +kernel) (by simp [Value.category]) (Nat.le_of_ble_eq_true rfl) ?_
  change J g mX2_step 2 0 0 _ (W1 scr tl lt lc (nI L, sa, nI bh, tk, vl, w1, w2, w3) sw P D S kk nx ring bu im kept tb tr tc ts) 0 [some (.ref 4)] []
  refine xl_step hL (L - bh) bh (by omega) ?_
  have hs := skR_ge lt (L - bh) bh
  refine j_aload_n (pc := 40) dX2_step_40 rfl ?_
  refine j_aload_n (pc := 41) dX2_step_41 rfl ?_
  refine j_getf (pc := 42) dX2_step_42 fl_X2_19 (by apply lkE; (with_reducible first | exact lkX_4e | exact lkX_2 | exact lkX_d | exact lkX_4); rfl) rfl ?_
  refine j_putf (pc := 45) dX2_step_45 fl_X2_59 (jfit_i _) (by apply lkE; (with_reducible first | exact lkX_4e | exact lkX_2 | exact lkX_d | exact lkX_4); rfl) upX_4 ?_
  refine j_aload_n (pc := 48) dX2_step_48 rfl ?_
  refine j_getf (pc := 49) dX2_step_49 fl_X2_59 (by apply lkE; (with_reducible first | exact lkX_4e | exact lkX_2 | exact lkX_d | exact lkX_4); rfl) rfl ?_
  refine j_aload_n (pc := 52) dX2_step_52 rfl ?_
  refine j_getf (pc := 53) dX2_step_53 fl_X2_15 (by apply lkE; (with_reducible first | exact lkX_4e | exact lkX_2 | exact lkX_d | exact lkX_4); rfl) rfl ?_
  refine j_icmp_lt (pc := 56) (tgt := 67) dX2_step_56 rfl (fun zc56 => ?_) (fun zc56 => ?_)
  · have hc : ¬ L ≤ skR lt (L - bh) bh := fun e => nI_nlt e (by omega) zc56
    refine j_aload_n (pc := 67) dX2_step_67 rfl ?_
    refine j_getf (pc := 68) dX2_step_68 fl_X2_9 (by apply lkE; (with_reducible first | exact lkX_4e | exact lkX_2 | exact lkX_d | exact lkX_4); rfl) rfl ?_
    refine j_aload_n (pc := 71) dX2_step_71 rfl ?_
    refine j_getf (pc := 72) dX2_step_72 fl_X2_59 (by apply lkE; (with_reducible first | exact lkX_4e | exact lkX_2 | exact lkX_d | exact lkX_4); rfl) rfl ?_
    refine j_v1 (pc := 75) (ci := 3) dX2_step_75 mc_X3_at ml_X2_129 im_X3_at se_X3_at rfl rfl (by apply lkE; (with_reducible first | exact lkX_4e | exact lkX_2 | exact lkX_d | exact lkX_4); rfl) (by omega) (c_at (n := 150) (by decide) lkX_2 lkX_3) (Nat.le_of_ble_eq_true rfl) ?_
    rw [rAt_in (show skR lt (L - bh) bh < 150 by omega) (by decide)]
    refine j_s1 (pc := 78) dX2_step_78 mc_X2_isDigit ml_X2_134 sm_X2_isDigit (by omega) (c_isDigit) (Nat.le_of_ble_eq_true rfl) ?_
    refine j_beq (pc := 81) (tgt := 91) dX2_step_81 rfl (fun zc81 => ?_) (fun zc81 => ?_)
    · refine j_aload_n (pc := 91) dX2_step_91 rfl ?_
      refine j_aload_n (pc := 92) dX2_step_92 rfl ?_
      refine j_getf (pc := 93) dX2_step_93 fl_X2_9 (by apply lkE; (with_reducible first | exact lkX_4e | exact lkX_2 | exact lkX_d | exact lkX_4); rfl) rfl ?_
      refine j_aload_n (pc := 96) dX2_step_96 rfl ?_
      refine j_getf (pc := 97) dX2_step_97 fl_X2_59 (by apply lkE; (with_reducible first | exact lkX_4e | exact lkX_2 | exact lkX_d | exact lkX_4); rfl) rfl ?_
      refine j_v1 (pc := 100) (ci := 3) dX2_step_100 mc_X3_at ml_X2_129 im_X3_at se_X3_at rfl rfl (by apply lkE; (with_reducible first | exact lkX_4e | exact lkX_2 | exact lkX_d | exact lkX_4); rfl) (by omega) (c_at (n := 150) (by decide) lkX_2 lkX_3) (Nat.le_of_ble_eq_true rfl) ?_
      rw [rAt_in (show skR lt (L - bh) bh < 150 by omega) (by decide)]
      refine j_s1 (pc := 103) dX2_step_103 mc_X2_isSign ml_X2_140 sm_X2_isSign (by omega) (c_isSign) (Nat.le_of_ble_eq_true rfl) ?_
      refine j_beq (pc := 106) (tgt := 123) dX2_step_106 rfl (fun zc106 => ?_) (fun zc106 => ?_)
      · refine j_iconst (pc := 123) dX2_step_123 kc_2 ?_
        refine j_putf (pc := 124) dX2_step_124 fl_X2_40 (jfit_i _) (by apply lkE; (with_reducible first | exact lkX_4e | exact lkX_2 | exact lkX_d | exact lkX_4); rfl) upX_4 ?_
        refine j_aload_n (pc := 127) dX2_step_127 rfl ?_
        refine j_dup (pc := 128) dX2_step_128 rfl ?_
        refine j_getf (pc := 129) dX2_step_129 fl_X2_19 (by apply lkE; (with_reducible first | exact lkX_4e | exact lkX_2 | exact lkX_d | exact lkX_4); rfl) rfl ?_
        refine j_iconst (pc := 132) dX2_step_132 kc_1 ?_
        refine j_iadd (pc := 133) dX2_step_133 ?_
        rw [nI_s1]
        refine j_putf (pc := 134) dX2_step_134 fl_X2_19 (jfit_i _) (by apply lkE; (with_reducible first | exact lkX_4e | exact lkX_2 | exact lkX_d | exact lkX_4); rfl) upX_4 ?_
        refine j_return (pc := 137) dX2_step_137 rfl ?_
        exact ⟨rfl, by simp only [tkR, hc, if_true, if_false, *]; first | done | rfl⟩
      · refine j_aload_n (pc := 109) dX2_step_109 rfl ?_
        refine j_getf (pc := 110) dX2_step_110 fl_X2_9 (by apply lkE; (with_reducible first | exact lkX_4e | exact lkX_2 | exact lkX_d | exact lkX_4); rfl) rfl ?_
        refine j_aload_n (pc := 113) dX2_step_113 rfl ?_
        refine j_getf (pc := 114) dX2_step_114 fl_X2_59 (by apply lkE; (with_reducible first | exact lkX_4e | exact lkX_2 | exact lkX_d | exact lkX_4); rfl) rfl ?_
        refine j_v1 (pc := 117) (ci := 3) dX2_step_117 mc_X3_at ml_X2_129 im_X3_at se_X3_at rfl rfl (by apply lkE; (with_reducible first | exact lkX_4e | exact lkX_2 | exact lkX_d | exact lkX_4); rfl) (by omega) (c_at (n := 150) (by decide) lkX_2 lkX_3) (Nat.le_of_ble_eq_true rfl) ?_
        rw [rAt_in (show skR lt (L - bh) bh < 150 by omega) (by decide)]
        refine j_goto (pc := 120) (tgt := 124) dX2_step_120 rfl ?_
        refine j_putf (pc := 124) dX2_step_124 fl_X2_40 (jfit_i _) (by apply lkE; (with_reducible first | exact lkX_4e | exact lkX_2 | exact lkX_d | exact lkX_4); rfl) upX_4 ?_
        refine j_aload_n (pc := 127) dX2_step_127 rfl ?_
        refine j_dup (pc := 128) dX2_step_128 rfl ?_
        refine j_getf (pc := 129) dX2_step_129 fl_X2_19 (by apply lkE; (with_reducible first | exact lkX_4e | exact lkX_2 | exact lkX_d | exact lkX_4); rfl) rfl ?_
        refine j_iconst (pc := 132) dX2_step_132 kc_1 ?_
        refine j_iadd (pc := 133) dX2_step_133 ?_
        rw [nI_s1]
        refine j_putf (pc := 134) dX2_step_134 fl_X2_19 (jfit_i _) (by apply lkE; (with_reducible first | exact lkX_4e | exact lkX_2 | exact lkX_d | exact lkX_4); rfl) upX_4 ?_
        refine j_return (pc := 137) dX2_step_137 rfl ?_
        exact ⟨rfl, by simp only [tkR, hc, if_true, if_false, *]; first | done | rfl⟩
    · refine j_aload_n (pc := 84) dX2_step_84 rfl ?_
      refine j_v0n (pc := 85) (ci := 2) dX2_step_85 mc_X2_stepNumber ml_X2_137 im_X2_stepNumber se_X2_stepNumber rfl rfl (by apply lkE; (with_reducible first | exact lkX_4e | exact lkX_2 | exact lkX_d | exact lkX_4); rfl) (by omega) (x_stepNumber hL (by omega)) (Nat.le_of_ble_eq_true rfl) ?_
      refine j_goto (pc := 88) (tgt := 137) dX2_step_88 rfl ?_
      refine j_return (pc := 137) dX2_step_137 rfl ?_
      exact ⟨rfl, by simp only [tkR, hc, if_true, if_false, *]; first | done | rfl⟩
  · have hc : L ≤ skR lt (L - bh) bh := by
      by_cases e : skR lt (L - bh) bh < L
      · exact absurd (nI_lt e (by omega)) zc56
      · omega
    refine j_aload_n (pc := 59) dX2_step_59 rfl ?_
    refine j_iconst (pc := 60) dX2_step_60 kc_0 ?_
    refine j_putf (pc := 61) dX2_step_61 fl_X2_40 (jfit_i _) (by apply lkE; (with_reducible first | exact lkX_4e | exact lkX_2 | exact lkX_d | exact lkX_4); rfl) upX_4 ?_
    refine j_goto (pc := 64) (tgt := 137) dX2_step_64 rfl ?_
    refine j_return (pc := 137) dX2_step_137 rfl ?_
    exact ⟨rfl, by simp only [tkR, hc, if_true, if_false, *]; first | done | rfl⟩

theorem x_step {L : Nat} (hL : L ≤ 150) {s : PSt} (hb : s.2.1 ≤ L) : CD g 2 mX2_step [.ref 4] (W1 scr tl lt lc (rdOf L s) sw P D S kk nx ring bu im kept tb tr tc ts) none (W1 scr tl lt lc (rdOf L (tkS lt L s)) sw P D S kk nx ring bu im kept tb tr tc ts) := x_step0 hL hb
end

/-! the reference's reader: numbers, deeds done, what may begin -/
section
variable {g : GG} {h : List AC} {Q : Option Value → List AC → Prop} {pre : List AC} {de : Int32} {we : Fn} {da : Int32} {bo : Fn} {be : Int32} {sg : Fn} {pi : Int32} {ru : Int32} {st : Fn} {wa : Fn} {kn : Int32} {im : Fn} {ik : Nat → Bool} {tm : Int32} {to : Fn} {tr : Int64} {tx : Fn} {tn : Int32} {cu : Int32} {sa : Int32} {tk : Int32} {nu : Int32} {wr : Bool} {it : Int32} {sd : Int32} {swt : Fn} {sdd : Int32} {sbx : Fn} {sfl : Fn} {sdi : Fn} {sb : Int32} {sst : Fn} {sp : Int32} {sr : Int32} {nw : Fn} {od : Fn} {bs : Fn}
theorem tnS_step {tx : Fn} {L : Nat} {lo hi : Int32} {s : MSt} (h : s.1 ≤ L) : (tnS tx L lo hi s).1 ≤ L ∧ s.1 ≤ (tnS tx L lo hi s).1 ∧ ((tnS tx L lo hi s).2.2.2.2 = false → ¬ (tnS tx L lo hi s).2.2.1 = 0 → s.1 < (tnS tx L lo hi s).1) := by
  have h1 := nextM_ok (tx := tx) h
  unfold tnS
  split
  · exact ⟨h1.1, h1.2.2.1, fun _ => h1.2.2.2⟩
  · exact ⟨h, Nat.le_refl _, fun q => absurd (show true = false from q) (by decide)⟩
def rdM (tx : Fn) (L : Nat) (hi : Int32) : Nat → Int32 → MSt → Int32 × MSt
  | 0, did, s => (did, s)
  | m + 1, did, s => if s.2.2.2.2 = false ∧ s.2.2.1 = 2 then
      rdM tx L hi m (did ||| (if (tnS tx L 0 hi (s.1, s.2.1, s.2.2.1, s.2.2.2.1, (jin s.2.2.2.1 0 hi && mhas did s.2.2.2.1))).2.2.2.2 then 0 else bitI (tnV 0 hi (s.1, s.2.1, s.2.2.1, s.2.2.2.1, (jin s.2.2.2.1 0 hi && mhas did s.2.2.2.1)))))
        (tnS tx L 0 hi (s.1, s.2.1, s.2.2.1, s.2.2.2.1, (jin s.2.2.2.1 0 hi && mhas did s.2.2.2.1)))
    else (did, s)
theorem rdM_ok {tx : Fn} {L : Nat} {hi : Int32} : ∀ (m : Nat) (did : Int32) (s : MSt), s.1 ≤ L → (rdM tx L hi m did s).2.1 ≤ L ∧ s.1 ≤ (rdM tx L hi m did s).2.1
  | 0, did, s, h => ⟨h, Nat.le_refl _⟩
  | m + 1, did, s, h => by
    unfold rdM
    split
    · have h1 := tnS_step (tx := tx) (lo := 0) (hi := hi) (s := (s.1, s.2.1, s.2.2.1, s.2.2.2.1, (jin s.2.2.2.1 0 hi && mhas did s.2.2.2.1))) h
      have h2 := rdM_ok (tx := tx) (L := L) (hi := hi) m (did ||| (if (tnS tx L 0 hi (s.1, s.2.1, s.2.2.1, s.2.2.2.1, (jin s.2.2.2.1 0 hi && mhas did s.2.2.2.1))).2.2.2.2 then 0 else bitI (tnV 0 hi (s.1, s.2.1, s.2.2.1, s.2.2.2.1, (jin s.2.2.2.1 0 hi && mhas did s.2.2.2.1))))) _ h1.1
      exact ⟨h2.1, Nat.le_trans h1.2.1 h2.2⟩
    · exact ⟨h, Nat.le_refl _⟩
def mbM (c sd sdd sb sp sr : Int32) : Bool := if c = 98 then !decide (6 ≤ sb) else if c = 100 then !decide (6 ≤ sd) else if c = 108 then !decide (6 ≤ sdd) else if c = 112 then !decide (0 ≤ sp) else !decide (0 ≤ sr)
def closeM (tx : Fn) (L : Nat) (s : MSt) : MSt := if s.2.2.2.2 = false ∧ s.2.2.1 = 3 then nextM tx L s else wrM s
set_option maxRecDepth 20000 in
set_option maxHeartbeats 200000 in
theorem m_takes0 (hp : pre.length = 129) {L : Nat} (htn : tn = nI L) (hL : L ≤ 150) (hx : ∀ k, k < L → 0 ≤ tx k) {c a : Nat} {tk nu lo hi : Int32} {w : Bool} (hc : c ≤ L) : CD g 3 mX7_takesNumber [.ref 129, .int lo, .int hi] (W2 pre de we da bo be sg pi ru st wa kn im ik tm to tr tx tn (nI c) (nI a) (tk) (nu) (w) it sd swt sdd sbx sfl sdi sb sst sp sr nw od bs) (some (.int (tnV lo hi (c, a, tk, nu, w)))) (W2 pre de we da bo be sg pi ru st wa kn im ik tm to tr tx tn (nI (tnS tx L lo hi (c, a, tk, nu, w)).1) (nI (tnS tx L lo hi (c, a, tk, nu, w)).2.1) ((tnS tx L lo hi (c, a, tk, nu, w)).2.2.1) ((tnS tx L lo hi (c, a, tk, nu, w)).2.2.2.1) ((tnS tx L lo hi (c, a, tk, nu, w)).2.2.2.2) it sd swt sdd sbx sfl sdi sb sst sp sr nw od bs) := by
  refine C.of (by decide +kernel) (by simp [Value.category]) (Nat.le_of_ble_eq_true rfl) ?_
  change J g mX7_takesNumber 3 0 0 _ (W2 pre de we da bo be sg pi ru st wa kn im ik tm to tr tx tn (nI c) (nI a) (tk) (nu) (w) it sd swt sdd sbx sfl sdi sb sst sp sr nw od bs) 0 [some (.ref 129), some (.int lo), some (.int hi), none, none] []
  refine j_aload_n (pc := 0) dX7_takesNumber_0 rfl ?_
  refine j_getf (pc := 1) dX7_takesNumber_1 fl_X7_102 (by apply lkE; (with_reducible first | exact lkM_129 hp | exact lkM_133 hp | exact lkM_144 hp | exact lkM_134 hp | exact lkM_130 hp | exact lkM_131 hp | exact lkM_132 hp | exact lkM_135 hp | exact lkM_136 hp | exact lkM_137 hp | exact lkM_138 hp | exact lkM_145 hp | exact lkM_146 hp | exact lkM_139 hp | exact lkM_140 hp | exact lkM_141 hp | exact lkM_142 hp | exact lkM_143 hp); rfl) rfl ?_
  refine j_bne (pc := 4) (tgt := 31) dX7_takesNumber_4 rfl (fun zc4 => ?_) (fun zc4 => ?_)
  · have eo : okM lo hi (c, a, tk, nu, w) = false := by
      show (!w && (decide (tk = 2) && jin nu lo hi)) = false
      first
        | (rw [zc4]; rfl)
        | (rw [zc24, Bool.and_false, Bool.and_false])
        | (rw [decide_eq_false zc12, Bool.false_and, Bool.and_false])
    refine j_iconst (pc := 31) dX7_takesNumber_31 kc_0 ?_
    refine j_istore_n (pc := 32) dX7_takesNumber_32 rfl (Nat.le_of_ble_eq_true rfl) rfl ?_
    refine j_aload_n (pc := 33) dX7_takesNumber_33 rfl ?_
    refine j_iload_n (pc := 34) dX7_takesNumber_34 rfl ?_
    refine j_if_ne (pc := 35) (tgt := 42) dX7_takesNumber_35 rfl (fun zc35 => absurd (show (0 : Int32) = 0 by decide) zc35) (fun _ => ?_)
    refine j_iconst (pc := 38) dX7_takesNumber_38 kc_1 ?_
    refine j_goto (pc := 39) (tgt := 43) dX7_takesNumber_39 rfl ?_
    refine j_putf (pc := 43) dX7_takesNumber_43 fl_X7_102 (by first | exact jfit_z true | exact jfit_z false) (by apply lkE; (with_reducible first | exact lkM_129 hp | exact lkM_133 hp | exact lkM_144 hp | exact lkM_134 hp | exact lkM_130 hp | exact lkM_131 hp | exact lkM_132 hp | exact lkM_135 hp | exact lkM_136 hp | exact lkM_137 hp | exact lkM_138 hp | exact lkM_145 hp | exact lkM_146 hp | exact lkM_139 hp | exact lkM_140 hp | exact lkM_141 hp | exact lkM_142 hp | exact lkM_143 hp); rfl) (by first | exact upM_129 (wr2 := true) hp | exact upM_129 (wr2 := false) hp) ?_
    refine j_aload_n (pc := 46) dX7_takesNumber_46 rfl ?_
    refine j_getf (pc := 47) dX7_takesNumber_47 fl_X7_92 (by apply lkE; (with_reducible first | exact lkM_129 hp | exact lkM_133 hp | exact lkM_144 hp | exact lkM_134 hp | exact lkM_130 hp | exact lkM_131 hp | exact lkM_132 hp | exact lkM_135 hp | exact lkM_136 hp | exact lkM_137 hp | exact lkM_138 hp | exact lkM_145 hp | exact lkM_146 hp | exact lkM_139 hp | exact lkM_140 hp | exact lkM_141 hp | exact lkM_142 hp | exact lkM_143 hp); rfl) rfl ?_
    refine j_istore (pc := 50) dX7_takesNumber_50 (Nat.le_of_ble_eq_true rfl) rfl ?_
    refine j_iload_n (pc := 52) dX7_takesNumber_52 rfl ?_
    refine j_if_eq (pc := 53) (tgt := 60) dX7_takesNumber_53 rfl (fun _ => ?_) (fun zc53 => absurd (show (0 : Int32) = 0 by decide) zc53)
    refine j_iload_n (pc := 60) dX7_takesNumber_60 rfl ?_
    refine j_if_eq (pc := 61) (tgt := 69) dX7_takesNumber_61 rfl (fun _ => ?_) (fun zc61 => absurd (show (0 : Int32) = 0 by decide) zc61)
    refine j_iconst (pc := 69) dX7_takesNumber_69 kc_0 ?_
    refine j_ireturn (pc := 70) dX7_takesNumber_70 rfl ?_
    first
      | (rw [tnV, tnS, if_pos eo, if_pos eo]; exact ⟨rfl, rfl⟩)
      | (rw [tnV, tnS, if_neg (show ¬ okM lo hi (c, a, tk, nu, w) = true from by rw [eo]; decide), if_neg (show ¬ okM lo hi (c, a, tk, nu, w) = true from by rw [eo]; decide)]; exact ⟨rfl, rfl⟩)
  · refine j_aload_n (pc := 7) dX7_takesNumber_7 rfl ?_
    refine j_getf (pc := 8) dX7_takesNumber_8 fl_X7_95 (by apply lkE; (with_reducible first | exact lkM_129 hp | exact lkM_133 hp | exact lkM_144 hp | exact lkM_134 hp | exact lkM_130 hp | exact lkM_131 hp | exact lkM_132 hp | exact lkM_135 hp | exact lkM_136 hp | exact lkM_137 hp | exact lkM_138 hp | exact lkM_145 hp | exact lkM_146 hp | exact lkM_139 hp | exact lkM_140 hp | exact lkM_141 hp | exact lkM_142 hp | exact lkM_143 hp); rfl) rfl ?_
    refine j_iconst (pc := 11) dX7_takesNumber_11 kc_2 ?_
    refine j_icmp_ne (pc := 12) (tgt := 31) dX7_takesNumber_12 rfl (fun zc12 => ?_) (fun zc12 => ?_)
    · have eo : okM lo hi (c, a, tk, nu, w) = false := by
        show (!w && (decide (tk = 2) && jin nu lo hi)) = false
        first
          | (rw [zc4]; rfl)
          | (rw [zc24, Bool.and_false, Bool.and_false])
          | (rw [decide_eq_false zc12, Bool.false_and, Bool.and_false])
      refine j_iconst (pc := 31) dX7_takesNumber_31 kc_0 ?_
      refine j_istore_n (pc := 32) dX7_takesNumber_32 rfl (Nat.le_of_ble_eq_true rfl) rfl ?_
      refine j_aload_n (pc := 33) dX7_takesNumber_33 rfl ?_
      refine j_iload_n (pc := 34) dX7_takesNumber_34 rfl ?_
      refine j_if_ne (pc := 35) (tgt := 42) dX7_takesNumber_35 rfl (fun zc35 => absurd (show (0 : Int32) = 0 by decide) zc35) (fun _ => ?_)
      refine j_iconst (pc := 38) dX7_takesNumber_38 kc_1 ?_
      refine j_goto (pc := 39) (tgt := 43) dX7_takesNumber_39 rfl ?_
      refine j_putf (pc := 43) dX7_takesNumber_43 fl_X7_102 (by first | exact jfit_z true | exact jfit_z false) (by apply lkE; (with_reducible first | exact lkM_129 hp | exact lkM_133 hp | exact lkM_144 hp | exact lkM_134 hp | exact lkM_130 hp | exact lkM_131 hp | exact lkM_132 hp | exact lkM_135 hp | exact lkM_136 hp | exact lkM_137 hp | exact lkM_138 hp | exact lkM_145 hp | exact lkM_146 hp | exact lkM_139 hp | exact lkM_140 hp | exact lkM_141 hp | exact lkM_142 hp | exact lkM_143 hp); rfl) (by first | exact upM_129 (wr2 := true) hp | exact upM_129 (wr2 := false) hp) ?_
      refine j_aload_n (pc := 46) dX7_takesNumber_46 rfl ?_
      refine j_getf (pc := 47) dX7_takesNumber_47 fl_X7_92 (by apply lkE; (with_reducible first | exact lkM_129 hp | exact lkM_133 hp | exact lkM_144 hp | exact lkM_134 hp | exact lkM_130 hp | exact lkM_131 hp | exact lkM_132 hp | exact lkM_135 hp | exact lkM_136 hp | exact lkM_137 hp | exact lkM_138 hp | exact lkM_145 hp | exact lkM_146 hp | exact lkM_139 hp | exact lkM_140 hp | exact lkM_141 hp | exact lkM_142 hp | exact lkM_143 hp); rfl) rfl ?_
      refine j_istore (pc := 50) dX7_takesNumber_50 (Nat.le_of_ble_eq_true rfl) rfl ?_
      refine j_iload_n (pc := 52) dX7_takesNumber_52 rfl ?_
      refine j_if_eq (pc := 53) (tgt := 60) dX7_takesNumber_53 rfl (fun _ => ?_) (fun zc53 => absurd (show (0 : Int32) = 0 by decide) zc53)
      refine j_iload_n (pc := 60) dX7_takesNumber_60 rfl ?_
      refine j_if_eq (pc := 61) (tgt := 69) dX7_takesNumber_61 rfl (fun _ => ?_) (fun zc61 => absurd (show (0 : Int32) = 0 by decide) zc61)
      refine j_iconst (pc := 69) dX7_takesNumber_69 kc_0 ?_
      refine j_ireturn (pc := 70) dX7_takesNumber_70 rfl ?_
      first
        | (rw [tnV, tnS, if_pos eo, if_pos eo]; exact ⟨rfl, rfl⟩)
        | (rw [tnV, tnS, if_neg (show ¬ okM lo hi (c, a, tk, nu, w) = true from by rw [eo]; decide), if_neg (show ¬ okM lo hi (c, a, tk, nu, w) = true from by rw [eo]; decide)]; exact ⟨rfl, rfl⟩)
    · refine j_aload_n (pc := 15) dX7_takesNumber_15 rfl ?_
      refine j_getf (pc := 16) dX7_takesNumber_16 fl_X7_92 (by apply lkE; (with_reducible first | exact lkM_129 hp | exact lkM_133 hp | exact lkM_144 hp | exact lkM_134 hp | exact lkM_130 hp | exact lkM_131 hp | exact lkM_132 hp | exact lkM_135 hp | exact lkM_136 hp | exact lkM_137 hp | exact lkM_138 hp | exact lkM_145 hp | exact lkM_146 hp | exact lkM_139 hp | exact lkM_140 hp | exact lkM_141 hp | exact lkM_142 hp | exact lkM_143 hp); rfl) rfl ?_
      refine j_iload_n (pc := 19) dX7_takesNumber_19 rfl ?_
      refine j_iload_n (pc := 20) dX7_takesNumber_20 rfl ?_
      refine j_s3 (pc := 21) dX7_takesNumber_21 mc_X7_in ml_X7_72 sm_X7_in (by omega) (c_in) (Nat.le_of_ble_eq_true rfl) ?_
      refine j_beq (pc := 24) (tgt := 31) dX7_takesNumber_24 rfl (fun zc24 => ?_) (fun zc24 => ?_)
      · have eo : okM lo hi (c, a, tk, nu, w) = false := by
          show (!w && (decide (tk = 2) && jin nu lo hi)) = false
          first
            | (rw [zc4]; rfl)
            | (rw [zc24, Bool.and_false, Bool.and_false])
            | (rw [decide_eq_false zc12, Bool.false_and, Bool.and_false])
        refine j_iconst (pc := 31) dX7_takesNumber_31 kc_0 ?_
        refine j_istore_n (pc := 32) dX7_takesNumber_32 rfl (Nat.le_of_ble_eq_true rfl) rfl ?_
        refine j_aload_n (pc := 33) dX7_takesNumber_33 rfl ?_
        refine j_iload_n (pc := 34) dX7_takesNumber_34 rfl ?_
        refine j_if_ne (pc := 35) (tgt := 42) dX7_takesNumber_35 rfl (fun zc35 => absurd (show (0 : Int32) = 0 by decide) zc35) (fun _ => ?_)
        refine j_iconst (pc := 38) dX7_takesNumber_38 kc_1 ?_
        refine j_goto (pc := 39) (tgt := 43) dX7_takesNumber_39 rfl ?_
        refine j_putf (pc := 43) dX7_takesNumber_43 fl_X7_102 (by first | exact jfit_z true | exact jfit_z false) (by apply lkE; (with_reducible first | exact lkM_129 hp | exact lkM_133 hp | exact lkM_144 hp | exact lkM_134 hp | exact lkM_130 hp | exact lkM_131 hp | exact lkM_132 hp | exact lkM_135 hp | exact lkM_136 hp | exact lkM_137 hp | exact lkM_138 hp | exact lkM_145 hp | exact lkM_146 hp | exact lkM_139 hp | exact lkM_140 hp | exact lkM_141 hp | exact lkM_142 hp | exact lkM_143 hp); rfl) (by first | exact upM_129 (wr2 := true) hp | exact upM_129 (wr2 := false) hp) ?_
        refine j_aload_n (pc := 46) dX7_takesNumber_46 rfl ?_
        refine j_getf (pc := 47) dX7_takesNumber_47 fl_X7_92 (by apply lkE; (with_reducible first | exact lkM_129 hp | exact lkM_133 hp | exact lkM_144 hp | exact lkM_134 hp | exact lkM_130 hp | exact lkM_131 hp | exact lkM_132 hp | exact lkM_135 hp | exact lkM_136 hp | exact lkM_137 hp | exact lkM_138 hp | exact lkM_145 hp | exact lkM_146 hp | exact lkM_139 hp | exact lkM_140 hp | exact lkM_141 hp | exact lkM_142 hp | exact lkM_143 hp); rfl) rfl ?_
        refine j_istore (pc := 50) dX7_takesNumber_50 (Nat.le_of_ble_eq_true rfl) rfl ?_
        refine j_iload_n (pc := 52) dX7_takesNumber_52 rfl ?_
        refine j_if_eq (pc := 53) (tgt := 60) dX7_takesNumber_53 rfl (fun _ => ?_) (fun zc53 => absurd (show (0 : Int32) = 0 by decide) zc53)
        refine j_iload_n (pc := 60) dX7_takesNumber_60 rfl ?_
        refine j_if_eq (pc := 61) (tgt := 69) dX7_takesNumber_61 rfl (fun _ => ?_) (fun zc61 => absurd (show (0 : Int32) = 0 by decide) zc61)
        refine j_iconst (pc := 69) dX7_takesNumber_69 kc_0 ?_
        refine j_ireturn (pc := 70) dX7_takesNumber_70 rfl ?_
        first
          | (rw [tnV, tnS, if_pos eo, if_pos eo]; exact ⟨rfl, rfl⟩)
          | (rw [tnV, tnS, if_neg (show ¬ okM lo hi (c, a, tk, nu, w) = true from by rw [eo]; decide), if_neg (show ¬ okM lo hi (c, a, tk, nu, w) = true from by rw [eo]; decide)]; exact ⟨rfl, rfl⟩)
      · subst zc4
        have eo : okM lo hi (c, a, tk, nu, false) = true := by
          show (!false && (decide (tk = 2) && jin nu lo hi)) = true
          rw [zc12, zc24]
          rfl
        refine j_iconst (pc := 27) dX7_takesNumber_27 kc_1 ?_
        refine j_goto (pc := 28) (tgt := 32) dX7_takesNumber_28 rfl ?_
        refine j_istore_n (pc := 32) dX7_takesNumber_32 rfl (Nat.le_of_ble_eq_true rfl) rfl ?_
        refine j_aload_n (pc := 33) dX7_takesNumber_33 rfl ?_
        refine j_iload_n (pc := 34) dX7_takesNumber_34 rfl ?_
        refine j_if_ne (pc := 35) (tgt := 42) dX7_takesNumber_35 rfl (fun _ => ?_) (fun zc35 => absurd zc35 (show ¬ (1 : Int32) = 0 by decide))
        refine j_iconst (pc := 42) dX7_takesNumber_42 kc_0 ?_
        refine j_putf (pc := 43) dX7_takesNumber_43 fl_X7_102 (by first | exact jfit_z true | exact jfit_z false) (by apply lkE; (with_reducible first | exact lkM_129 hp | exact lkM_133 hp | exact lkM_144 hp | exact lkM_134 hp | exact lkM_130 hp | exact lkM_131 hp | exact lkM_132 hp | exact lkM_135 hp | exact lkM_136 hp | exact lkM_137 hp | exact lkM_138 hp | exact lkM_145 hp | exact lkM_146 hp | exact lkM_139 hp | exact lkM_140 hp | exact lkM_141 hp | exact lkM_142 hp | exact lkM_143 hp); rfl) (by first | exact upM_129 (wr2 := true) hp | exact upM_129 (wr2 := false) hp) ?_
        refine j_aload_n (pc := 46) dX7_takesNumber_46 rfl ?_
        refine j_getf (pc := 47) dX7_takesNumber_47 fl_X7_92 (by apply lkE; (with_reducible first | exact lkM_129 hp | exact lkM_133 hp | exact lkM_144 hp | exact lkM_134 hp | exact lkM_130 hp | exact lkM_131 hp | exact lkM_132 hp | exact lkM_135 hp | exact lkM_136 hp | exact lkM_137 hp | exact lkM_138 hp | exact lkM_145 hp | exact lkM_146 hp | exact lkM_139 hp | exact lkM_140 hp | exact lkM_141 hp | exact lkM_142 hp | exact lkM_143 hp); rfl) rfl ?_
        refine j_istore (pc := 50) dX7_takesNumber_50 (Nat.le_of_ble_eq_true rfl) rfl ?_
        refine j_iload_n (pc := 52) dX7_takesNumber_52 rfl ?_
        refine j_if_eq (pc := 53) (tgt := 60) dX7_takesNumber_53 rfl (fun zc53 => absurd zc53 (show ¬ (1 : Int32) = 0 by decide)) (fun _ => ?_)
        refine j_aload_n (pc := 56) dX7_takesNumber_56 rfl ?_
        refine j_v0n (pc := 57) (ci := 7) dX7_takesNumber_57 mc_X7_next ml_X7_106 im_X7_next se_X7_next rfl rfl (by apply lkE; (with_reducible first | exact lkM_129 hp | exact lkM_133 hp | exact lkM_144 hp | exact lkM_134 hp | exact lkM_130 hp | exact lkM_131 hp | exact lkM_132 hp | exact lkM_135 hp | exact lkM_136 hp | exact lkM_137 hp | exact lkM_138 hp | exact lkM_145 hp | exact lkM_146 hp | exact lkM_139 hp | exact lkM_140 hp | exact lkM_141 hp | exact lkM_142 hp | exact lkM_143 hp); rfl) (by omega) (m_next0 hp htn hL hx hc) (Nat.le_of_ble_eq_true rfl) ?_
        refine j_iload_n (pc := 60) dX7_takesNumber_60 rfl ?_
        refine j_if_eq (pc := 61) (tgt := 69) dX7_takesNumber_61 rfl (fun zc61 => absurd zc61 (show ¬ (1 : Int32) = 0 by decide)) (fun _ => ?_)
        refine j_iload (pc := 64) dX7_takesNumber_64 rfl ?_
        refine j_goto (pc := 66) (tgt := 70) dX7_takesNumber_66 rfl ?_
        refine j_ireturn (pc := 70) dX7_takesNumber_70 rfl ?_
        first
          | (rw [tnV, tnS, if_pos eo, if_pos eo]; exact ⟨rfl, rfl⟩)
          | (rw [tnV, tnS, if_neg (show ¬ okM lo hi (c, a, tk, nu, w) = true from by rw [eo]; decide), if_neg (show ¬ okM lo hi (c, a, tk, nu, w) = true from by rw [eo]; decide)]; exact ⟨rfl, rfl⟩)

theorem lt_step {a b L m : Nat} (h1 : b ≤ L) (h2 : a < b) (h3 : L - a < m + 1) : L - b < m := by omega
theorem two_ne {x : Int32} (h : x = 2) : ¬ x = 0 := by
  rw [h]
  decide
set_option maxRecDepth 20000 in
set_option maxHeartbeats 400000 in
theorem ml_readDid (hp : pre.length = 129) {L : Nat} (htn : tn = nI L) (hL : L ≤ 150) (hx : ∀ k, k < L → 0 ≤ tx k) : ∀ (m : Nat) (did : Int32) (s : MSt), s.1 ≤ L → (s.2.2.2.2 = false → s.2.2.1 = 2 → L - s.1 < m) → J g mX7_readDead 4 0 0 Q (W2 pre de we da bo be sg pi ru st wa kn im ik tm to tr tx tn (nI ((rdM tx L (sd - 1) m did s).2).1) (nI ((rdM tx L (sd - 1) m did s).2).2.1) (((rdM tx L (sd - 1) m did s).2).2.2.1) (((rdM tx L (sd - 1) m did s).2).2.2.2.1) (((rdM tx L (sd - 1) m did s).2).2.2.2.2) it sd swt sdd sbx sfl sdi sb sst sp sr nw od bs) 118 [some (.ref 129), some (.int (rdM tx L (sd - 1) m did s).1), none] [] → J g mX7_readDead 4 0 0 Q (W2 pre de we da bo be sg pi ru st wa kn im ik tm to tr tx tn (nI (s).1) (nI (s).2.1) ((s).2.2.1) ((s).2.2.2.1) ((s).2.2.2.2) it sd swt sdd sbx sfl sdi sb sst sp sr nw od bs) 34 [some (.ref 129), some (.int did), none] [] := by
  intro m
  induction m with
  | zero =>
    intro did s hs hm hq
    refine j_aload_n (pc := 34) dX7_readDead_34 rfl ?_
    refine j_getf (pc := 35) dX7_readDead_35 fl_X7_102 (by apply lkE; (with_reducible first | exact lkM_129 hp | exact lkM_133 hp | exact lkM_144 hp | exact lkM_134 hp | exact lkM_130 hp | exact lkM_131 hp | exact lkM_132 hp | exact lkM_135 hp | exact lkM_136 hp | exact lkM_137 hp | exact lkM_138 hp | exact lkM_145 hp | exact lkM_146 hp | exact lkM_139 hp | exact lkM_140 hp | exact lkM_141 hp | exact lkM_142 hp | exact lkM_143 hp); rfl) rfl ?_
    refine j_bne (pc := 38) (tgt := 118) dX7_readDead_38 rfl (fun zc38 => ?_) (fun zc38 => ?_)
    · exact hq
    · refine j_aload_n (pc := 41) dX7_readDead_41 rfl ?_
      refine j_getf (pc := 42) dX7_readDead_42 fl_X7_95 (by apply lkE; (with_reducible first | exact lkM_129 hp | exact lkM_133 hp | exact lkM_144 hp | exact lkM_134 hp | exact lkM_130 hp | exact lkM_131 hp | exact lkM_132 hp | exact lkM_135 hp | exact lkM_136 hp | exact lkM_137 hp | exact lkM_138 hp | exact lkM_145 hp | exact lkM_146 hp | exact lkM_139 hp | exact lkM_140 hp | exact lkM_141 hp | exact lkM_142 hp | exact lkM_143 hp); rfl) rfl ?_
      refine j_iconst (pc := 45) dX7_readDead_45 kc_2 ?_
      refine j_icmp_ne (pc := 46) (tgt := 118) dX7_readDead_46 rfl (fun zc46 => ?_) (fun zc46 => ?_)
      · exact hq
      · exact absurd (hm zc38 zc46) (Nat.not_lt_zero _)
  | succ m ih =>
    intro did s hs hm hq
    refine j_aload_n (pc := 34) dX7_readDead_34 rfl ?_
    refine j_getf (pc := 35) dX7_readDead_35 fl_X7_102 (by apply lkE; (with_reducible first | exact lkM_129 hp | exact lkM_133 hp | exact lkM_144 hp | exact lkM_134 hp | exact lkM_130 hp | exact lkM_131 hp | exact lkM_132 hp | exact lkM_135 hp | exact lkM_136 hp | exact lkM_137 hp | exact lkM_138 hp | exact lkM_145 hp | exact lkM_146 hp | exact lkM_139 hp | exact lkM_140 hp | exact lkM_141 hp | exact lkM_142 hp | exact lkM_143 hp); rfl) rfl ?_
    refine j_bne (pc := 38) (tgt := 118) dX7_readDead_38 rfl (fun zc38 => ?_) (fun zc38 => ?_)
    · first
        | exact hq
        | (rw [show rdM tx L (sd - 1) (m + 1) did s = (did, s) from by rw [rdM, if_neg (show ¬ (s.2.2.2.2 = false ∧ s.2.2.1 = 2) from fun q => by first | exact zc46 q.2 | exact absurd (zc38.symm.trans q.1) (by decide))]] at hq
           exact hq)
    · refine j_aload_n (pc := 41) dX7_readDead_41 rfl ?_
      refine j_getf (pc := 42) dX7_readDead_42 fl_X7_95 (by apply lkE; (with_reducible first | exact lkM_129 hp | exact lkM_133 hp | exact lkM_144 hp | exact lkM_134 hp | exact lkM_130 hp | exact lkM_131 hp | exact lkM_132 hp | exact lkM_135 hp | exact lkM_136 hp | exact lkM_137 hp | exact lkM_138 hp | exact lkM_145 hp | exact lkM_146 hp | exact lkM_139 hp | exact lkM_140 hp | exact lkM_141 hp | exact lkM_142 hp | exact lkM_143 hp); rfl) rfl ?_
      refine j_iconst (pc := 45) dX7_readDead_45 kc_2 ?_
      refine j_icmp_ne (pc := 46) (tgt := 118) dX7_readDead_46 rfl (fun zc46 => ?_) (fun zc46 => ?_)
      · first
          | exact hq
          | (rw [show rdM tx L (sd - 1) (m + 1) did s = (did, s) from by rw [rdM, if_neg (show ¬ (s.2.2.2.2 = false ∧ s.2.2.1 = 2) from fun q => by first | exact zc46 q.2 | exact absurd (zc38.symm.trans q.1) (by decide))]] at hq
             exact hq)
      · refine j_aload_n (pc := 49) dX7_readDead_49 rfl ?_
        refine j_aload_n (pc := 50) dX7_readDead_50 rfl ?_
        refine j_getf (pc := 51) dX7_readDead_51 fl_X7_92 (by apply lkE; (with_reducible first | exact lkM_129 hp | exact lkM_133 hp | exact lkM_144 hp | exact lkM_134 hp | exact lkM_130 hp | exact lkM_131 hp | exact lkM_132 hp | exact lkM_135 hp | exact lkM_136 hp | exact lkM_137 hp | exact lkM_138 hp | exact lkM_145 hp | exact lkM_146 hp | exact lkM_139 hp | exact lkM_140 hp | exact lkM_141 hp | exact lkM_142 hp | exact lkM_143 hp); rfl) rfl ?_
        refine j_iconst (pc := 54) dX7_readDead_54 kc_0 ?_
        refine j_aload_n (pc := 55) dX7_readDead_55 rfl ?_
        refine j_getf (pc := 56) dX7_readDead_56 fl_X7_116 (by apply lkE; (with_reducible first | exact lkM_129 hp | exact lkM_133 hp | exact lkM_144 hp | exact lkM_134 hp | exact lkM_130 hp | exact lkM_131 hp | exact lkM_132 hp | exact lkM_135 hp | exact lkM_136 hp | exact lkM_137 hp | exact lkM_138 hp | exact lkM_145 hp | exact lkM_146 hp | exact lkM_139 hp | exact lkM_140 hp | exact lkM_141 hp | exact lkM_142 hp | exact lkM_143 hp); rfl) rfl ?_
        refine j_iconst (pc := 59) dX7_readDead_59 kc_1 ?_
        refine j_isub (pc := 60) dX7_readDead_60 ?_
        refine j_s3 (pc := 61) dX7_readDead_61 mc_X7_in ml_X7_72 sm_X7_in (by omega) (c_in) (Nat.le_of_ble_eq_true rfl) ?_
        refine j_beq (pc := 64) (tgt := 82) dX7_readDead_64 rfl (fun zc64 => ?_) (fun zc64 => ?_)
        · refine j_iconst (pc := 82) dX7_readDead_82 kc_0 ?_
          refine j_putf (pc := 83) dX7_readDead_83 fl_X7_102 (by first | exact jfit_z true | exact jfit_z false) (by apply lkE; (with_reducible first | exact lkM_129 hp | exact lkM_133 hp | exact lkM_144 hp | exact lkM_134 hp | exact lkM_130 hp | exact lkM_131 hp | exact lkM_132 hp | exact lkM_135 hp | exact lkM_136 hp | exact lkM_137 hp | exact lkM_138 hp | exact lkM_145 hp | exact lkM_146 hp | exact lkM_139 hp | exact lkM_140 hp | exact lkM_141 hp | exact lkM_142 hp | exact lkM_143 hp); rfl) (by first | exact upM_129 (wr2 := true) hp | exact upM_129 (wr2 := false) hp) ?_
          refine j_aload_n (pc := 86) dX7_readDead_86 rfl ?_
          refine j_iconst (pc := 87) dX7_readDead_87 kc_0 ?_
          refine j_aload_n (pc := 88) dX7_readDead_88 rfl ?_
          refine j_getf (pc := 89) dX7_readDead_89 fl_X7_116 (by apply lkE; (with_reducible first | exact lkM_129 hp | exact lkM_133 hp | exact lkM_144 hp | exact lkM_134 hp | exact lkM_130 hp | exact lkM_131 hp | exact lkM_132 hp | exact lkM_135 hp | exact lkM_136 hp | exact lkM_137 hp | exact lkM_138 hp | exact lkM_145 hp | exact lkM_146 hp | exact lkM_139 hp | exact lkM_140 hp | exact lkM_141 hp | exact lkM_142 hp | exact lkM_143 hp); rfl) rfl ?_
          refine j_iconst (pc := 92) dX7_readDead_92 kc_1 ?_
          refine j_isub (pc := 93) dX7_readDead_93 ?_
          refine j_v2 (pc := 94) (ci := 7) dX7_readDead_94 mc_X7_takesNumber ml_X7_112 im_X7_takesNumber se_X7_takesNumber rfl rfl (by apply lkE; (with_reducible first | exact lkM_129 hp | exact lkM_133 hp | exact lkM_144 hp | exact lkM_134 hp | exact lkM_130 hp | exact lkM_131 hp | exact lkM_132 hp | exact lkM_135 hp | exact lkM_136 hp | exact lkM_137 hp | exact lkM_138 hp | exact lkM_145 hp | exact lkM_146 hp | exact lkM_139 hp | exact lkM_140 hp | exact lkM_141 hp | exact lkM_142 hp | exact lkM_143 hp); rfl) (by omega) (m_takes0 hp htn hL hx hs) (Nat.le_of_ble_eq_true rfl) ?_
          refine j_istore_n (pc := 97) dX7_readDead_97 rfl (Nat.le_of_ble_eq_true rfl) rfl ?_
          refine j_iload_n (pc := 98) dX7_readDead_98 rfl ?_
          refine j_aload_n (pc := 99) dX7_readDead_99 rfl ?_
          refine j_getf (pc := 100) dX7_readDead_100 fl_X7_102 (by apply lkE; (with_reducible first | exact lkM_129 hp | exact lkM_133 hp | exact lkM_144 hp | exact lkM_134 hp | exact lkM_130 hp | exact lkM_131 hp | exact lkM_132 hp | exact lkM_135 hp | exact lkM_136 hp | exact lkM_137 hp | exact lkM_138 hp | exact lkM_145 hp | exact lkM_146 hp | exact lkM_139 hp | exact lkM_140 hp | exact lkM_141 hp | exact lkM_142 hp | exact lkM_143 hp); rfl) rfl ?_
          refine j_beq (pc := 103) (tgt := 110) dX7_readDead_103 rfl (fun zc103 => ?_) (fun zc103 => ?_)
          · refine j_iconst (pc := 110) dX7_readDead_110 kc_1 ?_
            refine j_iload_n (pc := 111) dX7_readDead_111 rfl ?_
            refine j_ishl (pc := 112) dX7_readDead_112 ?_
            try rw [show (1 : Int32) <<< (tnV 0 (sd - 1) (s.1, s.2.1, s.2.2.1, s.2.2.2.1, true) &&& 31) = bitI (tnV 0 (sd - 1) (s.1, s.2.1, s.2.2.1, s.2.2.2.1, true)) from rfl]
            try rw [show (1 : Int32) <<< (tnV 0 (sd - 1) (s.1, s.2.1, s.2.2.1, s.2.2.2.1, false) &&& 31) = bitI (tnV 0 (sd - 1) (s.1, s.2.1, s.2.2.1, s.2.2.2.1, false)) from rfl]
            refine j_ior (pc := 113) dX7_readDead_113 ?_
            refine j_istore_n (pc := 114) dX7_readDead_114 rfl (Nat.le_of_ble_eq_true rfl) rfl ?_
            refine j_goto (pc := 115) (tgt := 34) dX7_readDead_115 rfl ?_
            first
              | (rw [show rdM tx L (sd - 1) (m + 1) did s = rdM tx L (sd - 1) m (did ||| 0) (tnS tx L 0 (sd - 1) (s.1, s.2.1, s.2.2.1, s.2.2.2.1, true)) from by rw [rdM, if_pos ⟨zc38, zc46⟩, show (jin s.2.2.2.1 0 (sd - 1) && mhas did s.2.2.2.1) = true from by rw [zc64, zc75]; rfl, zc103]; rfl] at hq
                 have ht := tnS_step (tx := tx) (lo := 0) (hi := sd - 1) (s := (s.1, s.2.1, s.2.2.1, s.2.2.2.1, true)) hs
                 exact j_weak (ls' := [some _, some _, none]) ⟨rfl, rfl, trivial⟩ (ih (did ||| 0) (tnS tx L 0 (sd - 1) (s.1, s.2.1, s.2.2.1, s.2.2.2.1, true)) ht.1 (fun q1 q2 => lt_step ht.1 (ht.2.2 q1 (two_ne q2)) (hm zc38 zc46)) hq))
              | (rw [show rdM tx L (sd - 1) (m + 1) did s = rdM tx L (sd - 1) m (did ||| bitI (tnV 0 (sd - 1) (s.1, s.2.1, s.2.2.1, s.2.2.2.1, true))) (tnS tx L 0 (sd - 1) (s.1, s.2.1, s.2.2.1, s.2.2.2.1, true)) from by rw [rdM, if_pos ⟨zc38, zc46⟩, show (jin s.2.2.2.1 0 (sd - 1) && mhas did s.2.2.2.1) = true from by rw [zc64, zc75]; rfl, zc103]; rfl] at hq
                 have ht := tnS_step (tx := tx) (lo := 0) (hi := sd - 1) (s := (s.1, s.2.1, s.2.2.1, s.2.2.2.1, true)) hs
                 exact j_weak (ls' := [some _, some _, none]) ⟨rfl, rfl, trivial⟩ (ih (did ||| bitI (tnV 0 (sd - 1) (s.1, s.2.1, s.2.2.1, s.2.2.2.1, true))) (tnS tx L 0 (sd - 1) (s.1, s.2.1, s.2.2.1, s.2.2.2.1, true)) ht.1 (fun q1 q2 => lt_step ht.1 (ht.2.2 q1 (two_ne q2)) (hm zc38 zc46)) hq))
              | (rw [show rdM tx L (sd - 1) (m + 1) did s = rdM tx L (sd - 1) m (did ||| 0) (tnS tx L 0 (sd - 1) (s.1, s.2.1, s.2.2.1, s.2.2.2.1, false)) from by rw [rdM, if_pos ⟨zc38, zc46⟩, show (jin s.2.2.2.1 0 (sd - 1) && mhas did s.2.2.2.1) = false from by rw [zc64, zc75]; rfl, zc103]; rfl] at hq
                 have ht := tnS_step (tx := tx) (lo := 0) (hi := sd - 1) (s := (s.1, s.2.1, s.2.2.1, s.2.2.2.1, false)) hs
                 exact j_weak (ls' := [some _, some _, none]) ⟨rfl, rfl, trivial⟩ (ih (did ||| 0) (tnS tx L 0 (sd - 1) (s.1, s.2.1, s.2.2.1, s.2.2.2.1, false)) ht.1 (fun q1 q2 => lt_step ht.1 (ht.2.2 q1 (two_ne q2)) (hm zc38 zc46)) hq))
              | (rw [show rdM tx L (sd - 1) (m + 1) did s = rdM tx L (sd - 1) m (did ||| bitI (tnV 0 (sd - 1) (s.1, s.2.1, s.2.2.1, s.2.2.2.1, false))) (tnS tx L 0 (sd - 1) (s.1, s.2.1, s.2.2.1, s.2.2.2.1, false)) from by rw [rdM, if_pos ⟨zc38, zc46⟩, show (jin s.2.2.2.1 0 (sd - 1) && mhas did s.2.2.2.1) = false from by rw [zc64, zc75]; rfl, zc103]; rfl] at hq
                 have ht := tnS_step (tx := tx) (lo := 0) (hi := sd - 1) (s := (s.1, s.2.1, s.2.2.1, s.2.2.2.1, false)) hs
                 exact j_weak (ls' := [some _, some _, none]) ⟨rfl, rfl, trivial⟩ (ih (did ||| bitI (tnV 0 (sd - 1) (s.1, s.2.1, s.2.2.1, s.2.2.2.1, false))) (tnS tx L 0 (sd - 1) (s.1, s.2.1, s.2.2.1, s.2.2.2.1, false)) ht.1 (fun q1 q2 => lt_step ht.1 (ht.2.2 q1 (two_ne q2)) (hm zc38 zc46)) hq))
              | (rw [show rdM tx L (sd - 1) (m + 1) did s = rdM tx L (sd - 1) m (did ||| 0) (tnS tx L 0 (sd - 1) (s.1, s.2.1, s.2.2.1, s.2.2.2.1, false)) from by rw [rdM, if_pos ⟨zc38, zc46⟩, show (jin s.2.2.2.1 0 (sd - 1) && mhas did s.2.2.2.1) = false from by rw [zc64]; rfl, zc103]; rfl] at hq
                 have ht := tnS_step (tx := tx) (lo := 0) (hi := sd - 1) (s := (s.1, s.2.1, s.2.2.1, s.2.2.2.1, false)) hs
                 exact j_weak (ls' := [some _, some _, none]) ⟨rfl, rfl, trivial⟩ (ih (did ||| 0) (tnS tx L 0 (sd - 1) (s.1, s.2.1, s.2.2.1, s.2.2.2.1, false)) ht.1 (fun q1 q2 => lt_step ht.1 (ht.2.2 q1 (two_ne q2)) (hm zc38 zc46)) hq))
              | (rw [show rdM tx L (sd - 1) (m + 1) did s = rdM tx L (sd - 1) m (did ||| bitI (tnV 0 (sd - 1) (s.1, s.2.1, s.2.2.1, s.2.2.2.1, false))) (tnS tx L 0 (sd - 1) (s.1, s.2.1, s.2.2.1, s.2.2.2.1, false)) from by rw [rdM, if_pos ⟨zc38, zc46⟩, show (jin s.2.2.2.1 0 (sd - 1) && mhas did s.2.2.2.1) = false from by rw [zc64]; rfl, zc103]; rfl] at hq
                 have ht := tnS_step (tx := tx) (lo := 0) (hi := sd - 1) (s := (s.1, s.2.1, s.2.2.1, s.2.2.2.1, false)) hs
                 exact j_weak (ls' := [some _, some _, none]) ⟨rfl, rfl, trivial⟩ (ih (did ||| bitI (tnV 0 (sd - 1) (s.1, s.2.1, s.2.2.1, s.2.2.2.1, false))) (tnS tx L 0 (sd - 1) (s.1, s.2.1, s.2.2.1, s.2.2.2.1, false)) ht.1 (fun q1 q2 => lt_step ht.1 (ht.2.2 q1 (two_ne q2)) (hm zc38 zc46)) hq))
          · refine j_iconst (pc := 106) dX7_readDead_106 kc_0 ?_
            refine j_goto (pc := 107) (tgt := 113) dX7_readDead_107 rfl ?_
            try rw [show (1 : Int32) <<< (tnV 0 (sd - 1) (s.1, s.2.1, s.2.2.1, s.2.2.2.1, true) &&& 31) = bitI (tnV 0 (sd - 1) (s.1, s.2.1, s.2.2.1, s.2.2.2.1, true)) from rfl]
            try rw [show (1 : Int32) <<< (tnV 0 (sd - 1) (s.1, s.2.1, s.2.2.1, s.2.2.2.1, false) &&& 31) = bitI (tnV 0 (sd - 1) (s.1, s.2.1, s.2.2.1, s.2.2.2.1, false)) from rfl]
            refine j_ior (pc := 113) dX7_readDead_113 ?_
            refine j_istore_n (pc := 114) dX7_readDead_114 rfl (Nat.le_of_ble_eq_true rfl) rfl ?_
            refine j_goto (pc := 115) (tgt := 34) dX7_readDead_115 rfl ?_
            first
              | (rw [show rdM tx L (sd - 1) (m + 1) did s = rdM tx L (sd - 1) m (did ||| 0) (tnS tx L 0 (sd - 1) (s.1, s.2.1, s.2.2.1, s.2.2.2.1, true)) from by rw [rdM, if_pos ⟨zc38, zc46⟩, show (jin s.2.2.2.1 0 (sd - 1) && mhas did s.2.2.2.1) = true from by rw [zc64, zc75]; rfl, zc103]; rfl] at hq
                 have ht := tnS_step (tx := tx) (lo := 0) (hi := sd - 1) (s := (s.1, s.2.1, s.2.2.1, s.2.2.2.1, true)) hs
                 exact j_weak (ls' := [some _, some _, none]) ⟨rfl, rfl, trivial⟩ (ih (did ||| 0) (tnS tx L 0 (sd - 1) (s.1, s.2.1, s.2.2.1, s.2.2.2.1, true)) ht.1 (fun q1 q2 => lt_step ht.1 (ht.2.2 q1 (two_ne q2)) (hm zc38 zc46)) hq))
              | (rw [show rdM tx L (sd - 1) (m + 1) did s = rdM tx L (sd - 1) m (did ||| bitI (tnV 0 (sd - 1) (s.1, s.2.1, s.2.2.1, s.2.2.2.1, true))) (tnS tx L 0 (sd - 1) (s.1, s.2.1, s.2.2.1, s.2.2.2.1, true)) from by rw [rdM, if_pos ⟨zc38, zc46⟩, show (jin s.2.2.2.1 0 (sd - 1) && mhas did s.2.2.2.1) = true from by rw [zc64, zc75]; rfl, zc103]; rfl] at hq
                 have ht := tnS_step (tx := tx) (lo := 0) (hi := sd - 1) (s := (s.1, s.2.1, s.2.2.1, s.2.2.2.1, true)) hs
                 exact j_weak (ls' := [some _, some _, none]) ⟨rfl, rfl, trivial⟩ (ih (did ||| bitI (tnV 0 (sd - 1) (s.1, s.2.1, s.2.2.1, s.2.2.2.1, true))) (tnS tx L 0 (sd - 1) (s.1, s.2.1, s.2.2.1, s.2.2.2.1, true)) ht.1 (fun q1 q2 => lt_step ht.1 (ht.2.2 q1 (two_ne q2)) (hm zc38 zc46)) hq))
              | (rw [show rdM tx L (sd - 1) (m + 1) did s = rdM tx L (sd - 1) m (did ||| 0) (tnS tx L 0 (sd - 1) (s.1, s.2.1, s.2.2.1, s.2.2.2.1, false)) from by rw [rdM, if_pos ⟨zc38, zc46⟩, show (jin s.2.2.2.1 0 (sd - 1) && mhas did s.2.2.2.1) = false from by rw [zc64, zc75]; rfl, zc103]; rfl] at hq
                 have ht := tnS_step (tx := tx) (lo := 0) (hi := sd - 1) (s := (s.1, s.2.1, s.2.2.1, s.2.2.2.1, false)) hs
                 exact j_weak (ls' := [some _, some _, none]) ⟨rfl, rfl, trivial⟩ (ih (did ||| 0) (tnS tx L 0 (sd - 1) (s.1, s.2.1, s.2.2.1, s.2.2.2.1, false)) ht.1 (fun q1 q2 => lt_step ht.1 (ht.2.2 q1 (two_ne q2)) (hm zc38 zc46)) hq))
              | (rw [show rdM tx L (sd - 1) (m + 1) did s = rdM tx L (sd - 1) m (did ||| bitI (tnV 0 (sd - 1) (s.1, s.2.1, s.2.2.1, s.2.2.2.1, false))) (tnS tx L 0 (sd - 1) (s.1, s.2.1, s.2.2.1, s.2.2.2.1, false)) from by rw [rdM, if_pos ⟨zc38, zc46⟩, show (jin s.2.2.2.1 0 (sd - 1) && mhas did s.2.2.2.1) = false from by rw [zc64, zc75]; rfl, zc103]; rfl] at hq
                 have ht := tnS_step (tx := tx) (lo := 0) (hi := sd - 1) (s := (s.1, s.2.1, s.2.2.1, s.2.2.2.1, false)) hs
                 exact j_weak (ls' := [some _, some _, none]) ⟨rfl, rfl, trivial⟩ (ih (did ||| bitI (tnV 0 (sd - 1) (s.1, s.2.1, s.2.2.1, s.2.2.2.1, false))) (tnS tx L 0 (sd - 1) (s.1, s.2.1, s.2.2.1, s.2.2.2.1, false)) ht.1 (fun q1 q2 => lt_step ht.1 (ht.2.2 q1 (two_ne q2)) (hm zc38 zc46)) hq))
              | (rw [show rdM tx L (sd - 1) (m + 1) did s = rdM tx L (sd - 1) m (did ||| 0) (tnS tx L 0 (sd - 1) (s.1, s.2.1, s.2.2.1, s.2.2.2.1, false)) from by rw [rdM, if_pos ⟨zc38, zc46⟩, show (jin s.2.2.2.1 0 (sd - 1) && mhas did s.2.2.2.1) = false from by rw [zc64]; rfl, zc103]; rfl] at hq
                 have ht := tnS_step (tx := tx) (lo := 0) (hi := sd - 1) (s := (s.1, s.2.1, s.2.2.1, s.2.2.2.1, false)) hs
                 exact j_weak (ls' := [some _, some _, none]) ⟨rfl, rfl, trivial⟩ (ih (did ||| 0) (tnS tx L 0 (sd - 1) (s.1, s.2.1, s.2.2.1, s.2.2.2.1, false)) ht.1 (fun q1 q2 => lt_step ht.1 (ht.2.2 q1 (two_ne q2)) (hm zc38 zc46)) hq))
              | (rw [show rdM tx L (sd - 1) (m + 1) did s = rdM tx L (sd - 1) m (did ||| bitI (tnV 0 (sd - 1) (s.1, s.2.1, s.2.2.1, s.2.2.2.1, false))) (tnS tx L 0 (sd - 1) (s.1, s.2.1, s.2.2.1, s.2.2.2.1, false)) from by rw [rdM, if_pos ⟨zc38, zc46⟩, show (jin s.2.2.2.1 0 (sd - 1) && mhas did s.2.2.2.1) = false from by rw [zc64]; rfl, zc103]; rfl] at hq
                 have ht := tnS_step (tx := tx) (lo := 0) (hi := sd - 1) (s := (s.1, s.2.1, s.2.2.1, s.2.2.2.1, false)) hs
                 exact j_weak (ls' := [some _, some _, none]) ⟨rfl, rfl, trivial⟩ (ih (did ||| bitI (tnV 0 (sd - 1) (s.1, s.2.1, s.2.2.1, s.2.2.2.1, false))) (tnS tx L 0 (sd - 1) (s.1, s.2.1, s.2.2.1, s.2.2.2.1, false)) ht.1 (fun q1 q2 => lt_step ht.1 (ht.2.2 q1 (two_ne q2)) (hm zc38 zc46)) hq))
        · refine j_iload_n (pc := 67) dX7_readDead_67 rfl ?_
          refine j_aload_n (pc := 68) dX7_readDead_68 rfl ?_
          refine j_getf (pc := 69) dX7_readDead_69 fl_X7_92 (by apply lkE; (with_reducible first | exact lkM_129 hp | exact lkM_133 hp | exact lkM_144 hp | exact lkM_134 hp | exact lkM_130 hp | exact lkM_131 hp | exact lkM_132 hp | exact lkM_135 hp | exact lkM_136 hp | exact lkM_137 hp | exact lkM_138 hp | exact lkM_145 hp | exact lkM_146 hp | exact lkM_139 hp | exact lkM_140 hp | exact lkM_141 hp | exact lkM_142 hp | exact lkM_143 hp); rfl) rfl ?_
          refine j_s2 (pc := 72) dX7_readDead_72 mc_X7_has ml_X7_119 sm_X7_has (by omega) (m_has) (Nat.le_of_ble_eq_true rfl) ?_
          refine j_beq (pc := 75) (tgt := 82) dX7_readDead_75 rfl (fun zc75 => ?_) (fun zc75 => ?_)
          · refine j_iconst (pc := 82) dX7_readDead_82 kc_0 ?_
            refine j_putf (pc := 83) dX7_readDead_83 fl_X7_102 (by first | exact jfit_z true | exact jfit_z false) (by apply lkE; (with_reducible first | exact lkM_129 hp | exact lkM_133 hp | exact lkM_144 hp | exact lkM_134 hp | exact lkM_130 hp | exact lkM_131 hp | exact lkM_132 hp | exact lkM_135 hp | exact lkM_136 hp | exact lkM_137 hp | exact lkM_138 hp | exact lkM_145 hp | exact lkM_146 hp | exact lkM_139 hp | exact lkM_140 hp | exact lkM_141 hp | exact lkM_142 hp | exact lkM_143 hp); rfl) (by first | exact upM_129 (wr2 := true) hp | exact upM_129 (wr2 := false) hp) ?_
            refine j_aload_n (pc := 86) dX7_readDead_86 rfl ?_
            refine j_iconst (pc := 87) dX7_readDead_87 kc_0 ?_
            refine j_aload_n (pc := 88) dX7_readDead_88 rfl ?_
            refine j_getf (pc := 89) dX7_readDead_89 fl_X7_116 (by apply lkE; (with_reducible first | exact lkM_129 hp | exact lkM_133 hp | exact lkM_144 hp | exact lkM_134 hp | exact lkM_130 hp | exact lkM_131 hp | exact lkM_132 hp | exact lkM_135 hp | exact lkM_136 hp | exact lkM_137 hp | exact lkM_138 hp | exact lkM_145 hp | exact lkM_146 hp | exact lkM_139 hp | exact lkM_140 hp | exact lkM_141 hp | exact lkM_142 hp | exact lkM_143 hp); rfl) rfl ?_
            refine j_iconst (pc := 92) dX7_readDead_92 kc_1 ?_
            refine j_isub (pc := 93) dX7_readDead_93 ?_
            refine j_v2 (pc := 94) (ci := 7) dX7_readDead_94 mc_X7_takesNumber ml_X7_112 im_X7_takesNumber se_X7_takesNumber rfl rfl (by apply lkE; (with_reducible first | exact lkM_129 hp | exact lkM_133 hp | exact lkM_144 hp | exact lkM_134 hp | exact lkM_130 hp | exact lkM_131 hp | exact lkM_132 hp | exact lkM_135 hp | exact lkM_136 hp | exact lkM_137 hp | exact lkM_138 hp | exact lkM_145 hp | exact lkM_146 hp | exact lkM_139 hp | exact lkM_140 hp | exact lkM_141 hp | exact lkM_142 hp | exact lkM_143 hp); rfl) (by omega) (m_takes0 hp htn hL hx hs) (Nat.le_of_ble_eq_true rfl) ?_
            refine j_istore_n (pc := 97) dX7_readDead_97 rfl (Nat.le_of_ble_eq_true rfl) rfl ?_
            refine j_iload_n (pc := 98) dX7_readDead_98 rfl ?_
            refine j_aload_n (pc := 99) dX7_readDead_99 rfl ?_
            refine j_getf (pc := 100) dX7_readDead_100 fl_X7_102 (by apply lkE; (with_reducible first | exact lkM_129 hp | exact lkM_133 hp | exact lkM_144 hp | exact lkM_134 hp | exact lkM_130 hp | exact lkM_131 hp | exact lkM_132 hp | exact lkM_135 hp | exact lkM_136 hp | exact lkM_137 hp | exact lkM_138 hp | exact lkM_145 hp | exact lkM_146 hp | exact lkM_139 hp | exact lkM_140 hp | exact lkM_141 hp | exact lkM_142 hp | exact lkM_143 hp); rfl) rfl ?_
            refine j_beq (pc := 103) (tgt := 110) dX7_readDead_103 rfl (fun zc103 => ?_) (fun zc103 => ?_)
            · refine j_iconst (pc := 110) dX7_readDead_110 kc_1 ?_
              refine j_iload_n (pc := 111) dX7_readDead_111 rfl ?_
              refine j_ishl (pc := 112) dX7_readDead_112 ?_
              try rw [show (1 : Int32) <<< (tnV 0 (sd - 1) (s.1, s.2.1, s.2.2.1, s.2.2.2.1, true) &&& 31) = bitI (tnV 0 (sd - 1) (s.1, s.2.1, s.2.2.1, s.2.2.2.1, true)) from rfl]
              try rw [show (1 : Int32) <<< (tnV 0 (sd - 1) (s.1, s.2.1, s.2.2.1, s.2.2.2.1, false) &&& 31) = bitI (tnV 0 (sd - 1) (s.1, s.2.1, s.2.2.1, s.2.2.2.1, false)) from rfl]
              refine j_ior (pc := 113) dX7_readDead_113 ?_
              refine j_istore_n (pc := 114) dX7_readDead_114 rfl (Nat.le_of_ble_eq_true rfl) rfl ?_
              refine j_goto (pc := 115) (tgt := 34) dX7_readDead_115 rfl ?_
              first
                | (rw [show rdM tx L (sd - 1) (m + 1) did s = rdM tx L (sd - 1) m (did ||| 0) (tnS tx L 0 (sd - 1) (s.1, s.2.1, s.2.2.1, s.2.2.2.1, true)) from by rw [rdM, if_pos ⟨zc38, zc46⟩, show (jin s.2.2.2.1 0 (sd - 1) && mhas did s.2.2.2.1) = true from by rw [zc64, zc75]; rfl, zc103]; rfl] at hq
                   have ht := tnS_step (tx := tx) (lo := 0) (hi := sd - 1) (s := (s.1, s.2.1, s.2.2.1, s.2.2.2.1, true)) hs
                   exact j_weak (ls' := [some _, some _, none]) ⟨rfl, rfl, trivial⟩ (ih (did ||| 0) (tnS tx L 0 (sd - 1) (s.1, s.2.1, s.2.2.1, s.2.2.2.1, true)) ht.1 (fun q1 q2 => lt_step ht.1 (ht.2.2 q1 (two_ne q2)) (hm zc38 zc46)) hq))
                | (rw [show rdM tx L (sd - 1) (m + 1) did s = rdM tx L (sd - 1) m (did ||| bitI (tnV 0 (sd - 1) (s.1, s.2.1, s.2.2.1, s.2.2.2.1, true))) (tnS tx L 0 (sd - 1) (s.1, s.2.1, s.2.2.1, s.2.2.2.1, true)) from by rw [rdM, if_pos ⟨zc38, zc46⟩, show (jin s.2.2.2.1 0 (sd - 1) && mhas did s.2.2.2.1) = true from by rw [zc64, zc75]; rfl, zc103]; rfl] at hq
                   have ht := tnS_step (tx := tx) (lo := 0) (hi := sd - 1) (s := (s.1, s.2.1, s.2.2.1, s.2.2.2.1, true)) hs
                   exact j_weak (ls' := [some _, some _, none]) ⟨rfl, rfl, trivial⟩ (ih (did ||| bitI (tnV 0 (sd - 1) (s.1, s.2.1, s.2.2.1, s.2.2.2.1, true))) (tnS tx L 0 (sd - 1) (s.1, s.2.1, s.2.2.1, s.2.2.2.1, true)) ht.1 (fun q1 q2 => lt_step ht.1 (ht.2.2 q1 (two_ne q2)) (hm zc38 zc46)) hq))
                | (rw [show rdM tx L (sd - 1) (m + 1) did s = rdM tx L (sd - 1) m (did ||| 0) (tnS tx L 0 (sd - 1) (s.1, s.2.1, s.2.2.1, s.2.2.2.1, false)) from by rw [rdM, if_pos ⟨zc38, zc46⟩, show (jin s.2.2.2.1 0 (sd - 1) && mhas did s.2.2.2.1) = false from by rw [zc64, zc75]; rfl, zc103]; rfl] at hq
                   have ht := tnS_step (tx := tx) (lo := 0) (hi := sd - 1) (s := (s.1, s.2.1, s.2.2.1, s.2.2.2.1, false)) hs
                   exact j_weak (ls' := [some _, some _, none]) ⟨rfl, rfl, trivial⟩ (ih (did ||| 0) (tnS tx L 0 (sd - 1) (s.1, s.2.1, s.2.2.1, s.2.2.2.1, false)) ht.1 (fun q1 q2 => lt_step ht.1 (ht.2.2 q1 (two_ne q2)) (hm zc38 zc46)) hq))
                | (rw [show rdM tx L (sd - 1) (m + 1) did s = rdM tx L (sd - 1) m (did ||| bitI (tnV 0 (sd - 1) (s.1, s.2.1, s.2.2.1, s.2.2.2.1, false))) (tnS tx L 0 (sd - 1) (s.1, s.2.1, s.2.2.1, s.2.2.2.1, false)) from by rw [rdM, if_pos ⟨zc38, zc46⟩, show (jin s.2.2.2.1 0 (sd - 1) && mhas did s.2.2.2.1) = false from by rw [zc64, zc75]; rfl, zc103]; rfl] at hq
                   have ht := tnS_step (tx := tx) (lo := 0) (hi := sd - 1) (s := (s.1, s.2.1, s.2.2.1, s.2.2.2.1, false)) hs
                   exact j_weak (ls' := [some _, some _, none]) ⟨rfl, rfl, trivial⟩ (ih (did ||| bitI (tnV 0 (sd - 1) (s.1, s.2.1, s.2.2.1, s.2.2.2.1, false))) (tnS tx L 0 (sd - 1) (s.1, s.2.1, s.2.2.1, s.2.2.2.1, false)) ht.1 (fun q1 q2 => lt_step ht.1 (ht.2.2 q1 (two_ne q2)) (hm zc38 zc46)) hq))
                | (rw [show rdM tx L (sd - 1) (m + 1) did s = rdM tx L (sd - 1) m (did ||| 0) (tnS tx L 0 (sd - 1) (s.1, s.2.1, s.2.2.1, s.2.2.2.1, false)) from by rw [rdM, if_pos ⟨zc38, zc46⟩, show (jin s.2.2.2.1 0 (sd - 1) && mhas did s.2.2.2.1) = false from by rw [zc64]; rfl, zc103]; rfl] at hq
                   have ht := tnS_step (tx := tx) (lo := 0) (hi := sd - 1) (s := (s.1, s.2.1, s.2.2.1, s.2.2.2.1, false)) hs
                   exact j_weak (ls' := [some _, some _, none]) ⟨rfl, rfl, trivial⟩ (ih (did ||| 0) (tnS tx L 0 (sd - 1) (s.1, s.2.1, s.2.2.1, s.2.2.2.1, false)) ht.1 (fun q1 q2 => lt_step ht.1 (ht.2.2 q1 (two_ne q2)) (hm zc38 zc46)) hq))
                | (rw [show rdM tx L (sd - 1) (m + 1) did s = rdM tx L (sd - 1) m (did ||| bitI (tnV 0 (sd - 1) (s.1, s.2.1, s.2.2.1, s.2.2.2.1, false))) (tnS tx L 0 (sd - 1) (s.1, s.2.1, s.2.2.1, s.2.2.2.1, false)) from by rw [rdM, if_pos ⟨zc38, zc46⟩, show (jin s.2.2.2.1 0 (sd - 1) && mhas did s.2.2.2.1) = false from by rw [zc64]; rfl, zc103]; rfl] at hq
                   have ht := tnS_step (tx := tx) (lo := 0) (hi := sd - 1) (s := (s.1, s.2.1, s.2.2.1, s.2.2.2.1, false)) hs
                   exact j_weak (ls' := [some _, some _, none]) ⟨rfl, rfl, trivial⟩ (ih (did ||| bitI (tnV 0 (sd - 1) (s.1, s.2.1, s.2.2.1, s.2.2.2.1, false))) (tnS tx L 0 (sd - 1) (s.1, s.2.1, s.2.2.1, s.2.2.2.1, false)) ht.1 (fun q1 q2 => lt_step ht.1 (ht.2.2 q1 (two_ne q2)) (hm zc38 zc46)) hq))
            · refine j_iconst (pc := 106) dX7_readDead_106 kc_0 ?_
              refine j_goto (pc := 107) (tgt := 113) dX7_readDead_107 rfl ?_
              try rw [show (1 : Int32) <<< (tnV 0 (sd - 1) (s.1, s.2.1, s.2.2.1, s.2.2.2.1, true) &&& 31) = bitI (tnV 0 (sd - 1) (s.1, s.2.1, s.2.2.1, s.2.2.2.1, true)) from rfl]
              try rw [show (1 : Int32) <<< (tnV 0 (sd - 1) (s.1, s.2.1, s.2.2.1, s.2.2.2.1, false) &&& 31) = bitI (tnV 0 (sd - 1) (s.1, s.2.1, s.2.2.1, s.2.2.2.1, false)) from rfl]
              refine j_ior (pc := 113) dX7_readDead_113 ?_
              refine j_istore_n (pc := 114) dX7_readDead_114 rfl (Nat.le_of_ble_eq_true rfl) rfl ?_
              refine j_goto (pc := 115) (tgt := 34) dX7_readDead_115 rfl ?_
              first
                | (rw [show rdM tx L (sd - 1) (m + 1) did s = rdM tx L (sd - 1) m (did ||| 0) (tnS tx L 0 (sd - 1) (s.1, s.2.1, s.2.2.1, s.2.2.2.1, true)) from by rw [rdM, if_pos ⟨zc38, zc46⟩, show (jin s.2.2.2.1 0 (sd - 1) && mhas did s.2.2.2.1) = true from by rw [zc64, zc75]; rfl, zc103]; rfl] at hq
                   have ht := tnS_step (tx := tx) (lo := 0) (hi := sd - 1) (s := (s.1, s.2.1, s.2.2.1, s.2.2.2.1, true)) hs
                   exact j_weak (ls' := [some _, some _, none]) ⟨rfl, rfl, trivial⟩ (ih (did ||| 0) (tnS tx L 0 (sd - 1) (s.1, s.2.1, s.2.2.1, s.2.2.2.1, true)) ht.1 (fun q1 q2 => lt_step ht.1 (ht.2.2 q1 (two_ne q2)) (hm zc38 zc46)) hq))
                | (rw [show rdM tx L (sd - 1) (m + 1) did s = rdM tx L (sd - 1) m (did ||| bitI (tnV 0 (sd - 1) (s.1, s.2.1, s.2.2.1, s.2.2.2.1, true))) (tnS tx L 0 (sd - 1) (s.1, s.2.1, s.2.2.1, s.2.2.2.1, true)) from by rw [rdM, if_pos ⟨zc38, zc46⟩, show (jin s.2.2.2.1 0 (sd - 1) && mhas did s.2.2.2.1) = true from by rw [zc64, zc75]; rfl, zc103]; rfl] at hq
                   have ht := tnS_step (tx := tx) (lo := 0) (hi := sd - 1) (s := (s.1, s.2.1, s.2.2.1, s.2.2.2.1, true)) hs
                   exact j_weak (ls' := [some _, some _, none]) ⟨rfl, rfl, trivial⟩ (ih (did ||| bitI (tnV 0 (sd - 1) (s.1, s.2.1, s.2.2.1, s.2.2.2.1, true))) (tnS tx L 0 (sd - 1) (s.1, s.2.1, s.2.2.1, s.2.2.2.1, true)) ht.1 (fun q1 q2 => lt_step ht.1 (ht.2.2 q1 (two_ne q2)) (hm zc38 zc46)) hq))
                | (rw [show rdM tx L (sd - 1) (m + 1) did s = rdM tx L (sd - 1) m (did ||| 0) (tnS tx L 0 (sd - 1) (s.1, s.2.1, s.2.2.1, s.2.2.2.1, false)) from by rw [rdM, if_pos ⟨zc38, zc46⟩, show (jin s.2.2.2.1 0 (sd - 1) && mhas did s.2.2.2.1) = false from by rw [zc64, zc75]; rfl, zc103]; rfl] at hq
                   have ht := tnS_step (tx := tx) (lo := 0) (hi := sd - 1) (s := (s.1, s.2.1, s.2.2.1, s.2.2.2.1, false)) hs
                   exact j_weak (ls' := [some _, some _, none]) ⟨rfl, rfl, trivial⟩ (ih (did ||| 0) (tnS tx L 0 (sd - 1) (s.1, s.2.1, s.2.2.1, s.2.2.2.1, false)) ht.1 (fun q1 q2 => lt_step ht.1 (ht.2.2 q1 (two_ne q2)) (hm zc38 zc46)) hq))
                | (rw [show rdM tx L (sd - 1) (m + 1) did s = rdM tx L (sd - 1) m (did ||| bitI (tnV 0 (sd - 1) (s.1, s.2.1, s.2.2.1, s.2.2.2.1, false))) (tnS tx L 0 (sd - 1) (s.1, s.2.1, s.2.2.1, s.2.2.2.1, false)) from by rw [rdM, if_pos ⟨zc38, zc46⟩, show (jin s.2.2.2.1 0 (sd - 1) && mhas did s.2.2.2.1) = false from by rw [zc64, zc75]; rfl, zc103]; rfl] at hq
                   have ht := tnS_step (tx := tx) (lo := 0) (hi := sd - 1) (s := (s.1, s.2.1, s.2.2.1, s.2.2.2.1, false)) hs
                   exact j_weak (ls' := [some _, some _, none]) ⟨rfl, rfl, trivial⟩ (ih (did ||| bitI (tnV 0 (sd - 1) (s.1, s.2.1, s.2.2.1, s.2.2.2.1, false))) (tnS tx L 0 (sd - 1) (s.1, s.2.1, s.2.2.1, s.2.2.2.1, false)) ht.1 (fun q1 q2 => lt_step ht.1 (ht.2.2 q1 (two_ne q2)) (hm zc38 zc46)) hq))
                | (rw [show rdM tx L (sd - 1) (m + 1) did s = rdM tx L (sd - 1) m (did ||| 0) (tnS tx L 0 (sd - 1) (s.1, s.2.1, s.2.2.1, s.2.2.2.1, false)) from by rw [rdM, if_pos ⟨zc38, zc46⟩, show (jin s.2.2.2.1 0 (sd - 1) && mhas did s.2.2.2.1) = false from by rw [zc64]; rfl, zc103]; rfl] at hq
                   have ht := tnS_step (tx := tx) (lo := 0) (hi := sd - 1) (s := (s.1, s.2.1, s.2.2.1, s.2.2.2.1, false)) hs
                   exact j_weak (ls' := [some _, some _, none]) ⟨rfl, rfl, trivial⟩ (ih (did ||| 0) (tnS tx L 0 (sd - 1) (s.1, s.2.1, s.2.2.1, s.2.2.2.1, false)) ht.1 (fun q1 q2 => lt_step ht.1 (ht.2.2 q1 (two_ne q2)) (hm zc38 zc46)) hq))
                | (rw [show rdM tx L (sd - 1) (m + 1) did s = rdM tx L (sd - 1) m (did ||| bitI (tnV 0 (sd - 1) (s.1, s.2.1, s.2.2.1, s.2.2.2.1, false))) (tnS tx L 0 (sd - 1) (s.1, s.2.1, s.2.2.1, s.2.2.2.1, false)) from by rw [rdM, if_pos ⟨zc38, zc46⟩, show (jin s.2.2.2.1 0 (sd - 1) && mhas did s.2.2.2.1) = false from by rw [zc64]; rfl, zc103]; rfl] at hq
                   have ht := tnS_step (tx := tx) (lo := 0) (hi := sd - 1) (s := (s.1, s.2.1, s.2.2.1, s.2.2.2.1, false)) hs
                   exact j_weak (ls' := [some _, some _, none]) ⟨rfl, rfl, trivial⟩ (ih (did ||| bitI (tnV 0 (sd - 1) (s.1, s.2.1, s.2.2.1, s.2.2.2.1, false))) (tnS tx L 0 (sd - 1) (s.1, s.2.1, s.2.2.1, s.2.2.2.1, false)) ht.1 (fun q1 q2 => lt_step ht.1 (ht.2.2 q1 (two_ne q2)) (hm zc38 zc46)) hq))
          · refine j_iconst (pc := 78) dX7_readDead_78 kc_1 ?_
            refine j_goto (pc := 79) (tgt := 83) dX7_readDead_79 rfl ?_
            refine j_putf (pc := 83) dX7_readDead_83 fl_X7_102 (by first | exact jfit_z true | exact jfit_z false) (by apply lkE; (with_reducible first | exact lkM_129 hp | exact lkM_133 hp | exact lkM_144 hp | exact lkM_134 hp | exact lkM_130 hp | exact lkM_131 hp | exact lkM_132 hp | exact lkM_135 hp | exact lkM_136 hp | exact lkM_137 hp | exact lkM_138 hp | exact lkM_145 hp | exact lkM_146 hp | exact lkM_139 hp | exact lkM_140 hp | exact lkM_141 hp | exact lkM_142 hp | exact lkM_143 hp); rfl) (by first | exact upM_129 (wr2 := true) hp | exact upM_129 (wr2 := false) hp) ?_
            refine j_aload_n (pc := 86) dX7_readDead_86 rfl ?_
            refine j_iconst (pc := 87) dX7_readDead_87 kc_0 ?_
            refine j_aload_n (pc := 88) dX7_readDead_88 rfl ?_
            refine j_getf (pc := 89) dX7_readDead_89 fl_X7_116 (by apply lkE; (with_reducible first | exact lkM_129 hp | exact lkM_133 hp | exact lkM_144 hp | exact lkM_134 hp | exact lkM_130 hp | exact lkM_131 hp | exact lkM_132 hp | exact lkM_135 hp | exact lkM_136 hp | exact lkM_137 hp | exact lkM_138 hp | exact lkM_145 hp | exact lkM_146 hp | exact lkM_139 hp | exact lkM_140 hp | exact lkM_141 hp | exact lkM_142 hp | exact lkM_143 hp); rfl) rfl ?_
            refine j_iconst (pc := 92) dX7_readDead_92 kc_1 ?_
            refine j_isub (pc := 93) dX7_readDead_93 ?_
            refine j_v2 (pc := 94) (ci := 7) dX7_readDead_94 mc_X7_takesNumber ml_X7_112 im_X7_takesNumber se_X7_takesNumber rfl rfl (by apply lkE; (with_reducible first | exact lkM_129 hp | exact lkM_133 hp | exact lkM_144 hp | exact lkM_134 hp | exact lkM_130 hp | exact lkM_131 hp | exact lkM_132 hp | exact lkM_135 hp | exact lkM_136 hp | exact lkM_137 hp | exact lkM_138 hp | exact lkM_145 hp | exact lkM_146 hp | exact lkM_139 hp | exact lkM_140 hp | exact lkM_141 hp | exact lkM_142 hp | exact lkM_143 hp); rfl) (by omega) (m_takes0 hp htn hL hx hs) (Nat.le_of_ble_eq_true rfl) ?_
            refine j_istore_n (pc := 97) dX7_readDead_97 rfl (Nat.le_of_ble_eq_true rfl) rfl ?_
            refine j_iload_n (pc := 98) dX7_readDead_98 rfl ?_
            refine j_aload_n (pc := 99) dX7_readDead_99 rfl ?_
            refine j_getf (pc := 100) dX7_readDead_100 fl_X7_102 (by apply lkE; (with_reducible first | exact lkM_129 hp | exact lkM_133 hp | exact lkM_144 hp | exact lkM_134 hp | exact lkM_130 hp | exact lkM_131 hp | exact lkM_132 hp | exact lkM_135 hp | exact lkM_136 hp | exact lkM_137 hp | exact lkM_138 hp | exact lkM_145 hp | exact lkM_146 hp | exact lkM_139 hp | exact lkM_140 hp | exact lkM_141 hp | exact lkM_142 hp | exact lkM_143 hp); rfl) rfl ?_
            refine j_beq (pc := 103) (tgt := 110) dX7_readDead_103 rfl (fun zc103 => ?_) (fun zc103 => ?_)
            · refine j_iconst (pc := 110) dX7_readDead_110 kc_1 ?_
              refine j_iload_n (pc := 111) dX7_readDead_111 rfl ?_
              refine j_ishl (pc := 112) dX7_readDead_112 ?_
              try rw [show (1 : Int32) <<< (tnV 0 (sd - 1) (s.1, s.2.1, s.2.2.1, s.2.2.2.1, true) &&& 31) = bitI (tnV 0 (sd - 1) (s.1, s.2.1, s.2.2.1, s.2.2.2.1, true)) from rfl]
              try rw [show (1 : Int32) <<< (tnV 0 (sd - 1) (s.1, s.2.1, s.2.2.1, s.2.2.2.1, false) &&& 31) = bitI (tnV 0 (sd - 1) (s.1, s.2.1, s.2.2.1, s.2.2.2.1, false)) from rfl]
              refine j_ior (pc := 113) dX7_readDead_113 ?_
              refine j_istore_n (pc := 114) dX7_readDead_114 rfl (Nat.le_of_ble_eq_true rfl) rfl ?_
              refine j_goto (pc := 115) (tgt := 34) dX7_readDead_115 rfl ?_
              first
                | (rw [show rdM tx L (sd - 1) (m + 1) did s = rdM tx L (sd - 1) m (did ||| 0) (tnS tx L 0 (sd - 1) (s.1, s.2.1, s.2.2.1, s.2.2.2.1, true)) from by rw [rdM, if_pos ⟨zc38, zc46⟩, show (jin s.2.2.2.1 0 (sd - 1) && mhas did s.2.2.2.1) = true from by rw [zc64, zc75]; rfl, zc103]; rfl] at hq
                   have ht := tnS_step (tx := tx) (lo := 0) (hi := sd - 1) (s := (s.1, s.2.1, s.2.2.1, s.2.2.2.1, true)) hs
                   exact j_weak (ls' := [some _, some _, none]) ⟨rfl, rfl, trivial⟩ (ih (did ||| 0) (tnS tx L 0 (sd - 1) (s.1, s.2.1, s.2.2.1, s.2.2.2.1, true)) ht.1 (fun q1 q2 => lt_step ht.1 (ht.2.2 q1 (two_ne q2)) (hm zc38 zc46)) hq))
                | (rw [show rdM tx L (sd - 1) (m + 1) did s = rdM tx L (sd - 1) m (did ||| bitI (tnV 0 (sd - 1) (s.1, s.2.1, s.2.2.1, s.2.2.2.1, true))) (tnS tx L 0 (sd - 1) (s.1, s.2.1, s.2.2.1, s.2.2.2.1, true)) from by rw [rdM, if_pos ⟨zc38, zc46⟩, show (jin s.2.2.2.1 0 (sd - 1) && mhas did s.2.2.2.1) = true from by rw [zc64, zc75]; rfl, zc103]; rfl] at hq
                   have ht := tnS_step (tx := tx) (lo := 0) (hi := sd - 1) (s := (s.1, s.2.1, s.2.2.1, s.2.2.2.1, true)) hs
                   exact j_weak (ls' := [some _, some _, none]) ⟨rfl, rfl, trivial⟩ (ih (did ||| bitI (tnV 0 (sd - 1) (s.1, s.2.1, s.2.2.1, s.2.2.2.1, true))) (tnS tx L 0 (sd - 1) (s.1, s.2.1, s.2.2.1, s.2.2.2.1, true)) ht.1 (fun q1 q2 => lt_step ht.1 (ht.2.2 q1 (two_ne q2)) (hm zc38 zc46)) hq))
                | (rw [show rdM tx L (sd - 1) (m + 1) did s = rdM tx L (sd - 1) m (did ||| 0) (tnS tx L 0 (sd - 1) (s.1, s.2.1, s.2.2.1, s.2.2.2.1, false)) from by rw [rdM, if_pos ⟨zc38, zc46⟩, show (jin s.2.2.2.1 0 (sd - 1) && mhas did s.2.2.2.1) = false from by rw [zc64, zc75]; rfl, zc103]; rfl] at hq
                   have ht := tnS_step (tx := tx) (lo := 0) (hi := sd - 1) (s := (s.1, s.2.1, s.2.2.1, s.2.2.2.1, false)) hs
                   exact j_weak (ls' := [some _, some _, none]) ⟨rfl, rfl, trivial⟩ (ih (did ||| 0) (tnS tx L 0 (sd - 1) (s.1, s.2.1, s.2.2.1, s.2.2.2.1, false)) ht.1 (fun q1 q2 => lt_step ht.1 (ht.2.2 q1 (two_ne q2)) (hm zc38 zc46)) hq))
                | (rw [show rdM tx L (sd - 1) (m + 1) did s = rdM tx L (sd - 1) m (did ||| bitI (tnV 0 (sd - 1) (s.1, s.2.1, s.2.2.1, s.2.2.2.1, false))) (tnS tx L 0 (sd - 1) (s.1, s.2.1, s.2.2.1, s.2.2.2.1, false)) from by rw [rdM, if_pos ⟨zc38, zc46⟩, show (jin s.2.2.2.1 0 (sd - 1) && mhas did s.2.2.2.1) = false from by rw [zc64, zc75]; rfl, zc103]; rfl] at hq
                   have ht := tnS_step (tx := tx) (lo := 0) (hi := sd - 1) (s := (s.1, s.2.1, s.2.2.1, s.2.2.2.1, false)) hs
                   exact j_weak (ls' := [some _, some _, none]) ⟨rfl, rfl, trivial⟩ (ih (did ||| bitI (tnV 0 (sd - 1) (s.1, s.2.1, s.2.2.1, s.2.2.2.1, false))) (tnS tx L 0 (sd - 1) (s.1, s.2.1, s.2.2.1, s.2.2.2.1, false)) ht.1 (fun q1 q2 => lt_step ht.1 (ht.2.2 q1 (two_ne q2)) (hm zc38 zc46)) hq))
                | (rw [show rdM tx L (sd - 1) (m + 1) did s = rdM tx L (sd - 1) m (did ||| 0) (tnS tx L 0 (sd - 1) (s.1, s.2.1, s.2.2.1, s.2.2.2.1, false)) from by rw [rdM, if_pos ⟨zc38, zc46⟩, show (jin s.2.2.2.1 0 (sd - 1) && mhas did s.2.2.2.1) = false from by rw [zc64]; rfl, zc103]; rfl] at hq
                   have ht := tnS_step (tx := tx) (lo := 0) (hi := sd - 1) (s := (s.1, s.2.1, s.2.2.1, s.2.2.2.1, false)) hs
                   exact j_weak (ls' := [some _, some _, none]) ⟨rfl, rfl, trivial⟩ (ih (did ||| 0) (tnS tx L 0 (sd - 1) (s.1, s.2.1, s.2.2.1, s.2.2.2.1, false)) ht.1 (fun q1 q2 => lt_step ht.1 (ht.2.2 q1 (two_ne q2)) (hm zc38 zc46)) hq))
                | (rw [show rdM tx L (sd - 1) (m + 1) did s = rdM tx L (sd - 1) m (did ||| bitI (tnV 0 (sd - 1) (s.1, s.2.1, s.2.2.1, s.2.2.2.1, false))) (tnS tx L 0 (sd - 1) (s.1, s.2.1, s.2.2.1, s.2.2.2.1, false)) from by rw [rdM, if_pos ⟨zc38, zc46⟩, show (jin s.2.2.2.1 0 (sd - 1) && mhas did s.2.2.2.1) = false from by rw [zc64]; rfl, zc103]; rfl] at hq
                   have ht := tnS_step (tx := tx) (lo := 0) (hi := sd - 1) (s := (s.1, s.2.1, s.2.2.1, s.2.2.2.1, false)) hs
                   exact j_weak (ls' := [some _, some _, none]) ⟨rfl, rfl, trivial⟩ (ih (did ||| bitI (tnV 0 (sd - 1) (s.1, s.2.1, s.2.2.1, s.2.2.2.1, false))) (tnS tx L 0 (sd - 1) (s.1, s.2.1, s.2.2.1, s.2.2.2.1, false)) ht.1 (fun q1 q2 => lt_step ht.1 (ht.2.2 q1 (two_ne q2)) (hm zc38 zc46)) hq))
            · refine j_iconst (pc := 106) dX7_readDead_106 kc_0 ?_
              refine j_goto (pc := 107) (tgt := 113) dX7_readDead_107 rfl ?_
              try rw [show (1 : Int32) <<< (tnV 0 (sd - 1) (s.1, s.2.1, s.2.2.1, s.2.2.2.1, true) &&& 31) = bitI (tnV 0 (sd - 1) (s.1, s.2.1, s.2.2.1, s.2.2.2.1, true)) from rfl]
              try rw [show (1 : Int32) <<< (tnV 0 (sd - 1) (s.1, s.2.1, s.2.2.1, s.2.2.2.1, false) &&& 31) = bitI (tnV 0 (sd - 1) (s.1, s.2.1, s.2.2.1, s.2.2.2.1, false)) from rfl]
              refine j_ior (pc := 113) dX7_readDead_113 ?_
              refine j_istore_n (pc := 114) dX7_readDead_114 rfl (Nat.le_of_ble_eq_true rfl) rfl ?_
              refine j_goto (pc := 115) (tgt := 34) dX7_readDead_115 rfl ?_
              first
                | (rw [show rdM tx L (sd - 1) (m + 1) did s = rdM tx L (sd - 1) m (did ||| 0) (tnS tx L 0 (sd - 1) (s.1, s.2.1, s.2.2.1, s.2.2.2.1, true)) from by rw [rdM, if_pos ⟨zc38, zc46⟩, show (jin s.2.2.2.1 0 (sd - 1) && mhas did s.2.2.2.1) = true from by rw [zc64, zc75]; rfl, zc103]; rfl] at hq
                   have ht := tnS_step (tx := tx) (lo := 0) (hi := sd - 1) (s := (s.1, s.2.1, s.2.2.1, s.2.2.2.1, true)) hs
                   exact j_weak (ls' := [some _, some _, none]) ⟨rfl, rfl, trivial⟩ (ih (did ||| 0) (tnS tx L 0 (sd - 1) (s.1, s.2.1, s.2.2.1, s.2.2.2.1, true)) ht.1 (fun q1 q2 => lt_step ht.1 (ht.2.2 q1 (two_ne q2)) (hm zc38 zc46)) hq))
                | (rw [show rdM tx L (sd - 1) (m + 1) did s = rdM tx L (sd - 1) m (did ||| bitI (tnV 0 (sd - 1) (s.1, s.2.1, s.2.2.1, s.2.2.2.1, true))) (tnS tx L 0 (sd - 1) (s.1, s.2.1, s.2.2.1, s.2.2.2.1, true)) from by rw [rdM, if_pos ⟨zc38, zc46⟩, show (jin s.2.2.2.1 0 (sd - 1) && mhas did s.2.2.2.1) = true from by rw [zc64, zc75]; rfl, zc103]; rfl] at hq
                   have ht := tnS_step (tx := tx) (lo := 0) (hi := sd - 1) (s := (s.1, s.2.1, s.2.2.1, s.2.2.2.1, true)) hs
                   exact j_weak (ls' := [some _, some _, none]) ⟨rfl, rfl, trivial⟩ (ih (did ||| bitI (tnV 0 (sd - 1) (s.1, s.2.1, s.2.2.1, s.2.2.2.1, true))) (tnS tx L 0 (sd - 1) (s.1, s.2.1, s.2.2.1, s.2.2.2.1, true)) ht.1 (fun q1 q2 => lt_step ht.1 (ht.2.2 q1 (two_ne q2)) (hm zc38 zc46)) hq))
                | (rw [show rdM tx L (sd - 1) (m + 1) did s = rdM tx L (sd - 1) m (did ||| 0) (tnS tx L 0 (sd - 1) (s.1, s.2.1, s.2.2.1, s.2.2.2.1, false)) from by rw [rdM, if_pos ⟨zc38, zc46⟩, show (jin s.2.2.2.1 0 (sd - 1) && mhas did s.2.2.2.1) = false from by rw [zc64, zc75]; rfl, zc103]; rfl] at hq
                   have ht := tnS_step (tx := tx) (lo := 0) (hi := sd - 1) (s := (s.1, s.2.1, s.2.2.1, s.2.2.2.1, false)) hs
                   exact j_weak (ls' := [some _, some _, none]) ⟨rfl, rfl, trivial⟩ (ih (did ||| 0) (tnS tx L 0 (sd - 1) (s.1, s.2.1, s.2.2.1, s.2.2.2.1, false)) ht.1 (fun q1 q2 => lt_step ht.1 (ht.2.2 q1 (two_ne q2)) (hm zc38 zc46)) hq))
                | (rw [show rdM tx L (sd - 1) (m + 1) did s = rdM tx L (sd - 1) m (did ||| bitI (tnV 0 (sd - 1) (s.1, s.2.1, s.2.2.1, s.2.2.2.1, false))) (tnS tx L 0 (sd - 1) (s.1, s.2.1, s.2.2.1, s.2.2.2.1, false)) from by rw [rdM, if_pos ⟨zc38, zc46⟩, show (jin s.2.2.2.1 0 (sd - 1) && mhas did s.2.2.2.1) = false from by rw [zc64, zc75]; rfl, zc103]; rfl] at hq
                   have ht := tnS_step (tx := tx) (lo := 0) (hi := sd - 1) (s := (s.1, s.2.1, s.2.2.1, s.2.2.2.1, false)) hs
                   exact j_weak (ls' := [some _, some _, none]) ⟨rfl, rfl, trivial⟩ (ih (did ||| bitI (tnV 0 (sd - 1) (s.1, s.2.1, s.2.2.1, s.2.2.2.1, false))) (tnS tx L 0 (sd - 1) (s.1, s.2.1, s.2.2.1, s.2.2.2.1, false)) ht.1 (fun q1 q2 => lt_step ht.1 (ht.2.2 q1 (two_ne q2)) (hm zc38 zc46)) hq))
                | (rw [show rdM tx L (sd - 1) (m + 1) did s = rdM tx L (sd - 1) m (did ||| 0) (tnS tx L 0 (sd - 1) (s.1, s.2.1, s.2.2.1, s.2.2.2.1, false)) from by rw [rdM, if_pos ⟨zc38, zc46⟩, show (jin s.2.2.2.1 0 (sd - 1) && mhas did s.2.2.2.1) = false from by rw [zc64]; rfl, zc103]; rfl] at hq
                   have ht := tnS_step (tx := tx) (lo := 0) (hi := sd - 1) (s := (s.1, s.2.1, s.2.2.1, s.2.2.2.1, false)) hs
                   exact j_weak (ls' := [some _, some _, none]) ⟨rfl, rfl, trivial⟩ (ih (did ||| 0) (tnS tx L 0 (sd - 1) (s.1, s.2.1, s.2.2.1, s.2.2.2.1, false)) ht.1 (fun q1 q2 => lt_step ht.1 (ht.2.2 q1 (two_ne q2)) (hm zc38 zc46)) hq))
                | (rw [show rdM tx L (sd - 1) (m + 1) did s = rdM tx L (sd - 1) m (did ||| bitI (tnV 0 (sd - 1) (s.1, s.2.1, s.2.2.1, s.2.2.2.1, false))) (tnS tx L 0 (sd - 1) (s.1, s.2.1, s.2.2.1, s.2.2.2.1, false)) from by rw [rdM, if_pos ⟨zc38, zc46⟩, show (jin s.2.2.2.1 0 (sd - 1) && mhas did s.2.2.2.1) = false from by rw [zc64]; rfl, zc103]; rfl] at hq
                   have ht := tnS_step (tx := tx) (lo := 0) (hi := sd - 1) (s := (s.1, s.2.1, s.2.2.1, s.2.2.2.1, false)) hs
                   exact j_weak (ls' := [some _, some _, none]) ⟨rfl, rfl, trivial⟩ (ih (did ||| bitI (tnV 0 (sd - 1) (s.1, s.2.1, s.2.2.1, s.2.2.2.1, false))) (tnS tx L 0 (sd - 1) (s.1, s.2.1, s.2.2.1, s.2.2.2.1, false)) ht.1 (fun q1 q2 => lt_step ht.1 (ht.2.2 q1 (two_ne q2)) (hm zc38 zc46)) hq))

set_option maxRecDepth 20000 in
set_option maxHeartbeats 200000 in
theorem m_readDead (hp : pre.length = 129) {L : Nat} (htn : tn = nI L) (hL : L ≤ 150) (hx : ∀ k, k < L → 0 ≤ tx k) {s : MSt} (hs : s.1 ≤ L) {k : Nat} (hk : k < 6) : CD g 4 mX7_readDead [.ref 129] (W2 pre de we da bo be sg pi ru st wa kn im ik tm to tr tx tn (nI (s).1) (nI (s).2.1) ((s).2.2.1) ((s).2.2.2.1) ((s).2.2.2.2) it sd swt (nI k) sbx sfl sdi sb sst sp sr nw od bs) none (W2 pre de we da bo be sg pi ru st wa kn im ik tm to tr tx tn (nI ((rdM tx L (sd - 1) 151 0 (tnS tx L 0 9 (tnS tx L 1 40 s))).2).1) (nI ((rdM tx L (sd - 1) 151 0 (tnS tx L 0 9 (tnS tx L 1 40 s))).2).2.1) (((rdM tx L (sd - 1) 151 0 (tnS tx L 0 9 (tnS tx L 1 40 s))).2).2.2.1) (((rdM tx L (sd - 1) 151 0 (tnS tx L 0 9 (tnS tx L 1 40 s))).2).2.2.2.1) (((rdM tx L (sd - 1) 151 0 (tnS tx L 0 9 (tnS tx L 1 40 s))).2).2.2.2.2) it sd swt (nI (k + 1)) (upd sbx k (tnV 1 40 s)) (upd sfl k (tnV 0 9 (tnS tx L 1 40 s))) (upd sdi k (rdM tx L (sd - 1) 151 0 (tnS tx L 0 9 (tnS tx L 1 40 s))).1) sb sst sp sr nw od bs) := by
  refine C.of (by decide +kernel) (by simp [Value.category]) (Nat.le_of_ble_eq_true rfl) ?_
  change J g mX7_readDead 4 0 0 _ (W2 pre de we da bo be sg pi ru st wa kn im ik tm to tr tx tn (nI (s).1) (nI (s).2.1) ((s).2.2.1) ((s).2.2.2.1) ((s).2.2.2.2) it sd swt (nI k) sbx sfl sdi sb sst sp sr nw od bs) 0 [some (.ref 129), none, none] []
  have z1 := tnS_step (tx := tx) (lo := 1) (hi := 40) hs
  have z2 := tnS_step (tx := tx) (lo := 0) (hi := 9) z1.1
  refine j_aload_n (pc := 0) dX7_readDead_0 rfl ?_
  refine j_getf (pc := 1) dX7_readDead_1 fl_X7_48 (by apply lkE; (with_reducible first | exact lkM_129 hp | exact lkM_133 hp | exact lkM_144 hp | exact lkM_134 hp | exact lkM_130 hp | exact lkM_131 hp | exact lkM_132 hp | exact lkM_135 hp | exact lkM_136 hp | exact lkM_137 hp | exact lkM_138 hp | exact lkM_145 hp | exact lkM_146 hp | exact lkM_139 hp | exact lkM_140 hp | exact lkM_141 hp | exact lkM_142 hp | exact lkM_143 hp); rfl) rfl ?_
  refine j_aload_n (pc := 4) dX7_readDead_4 rfl ?_
  refine j_getf (pc := 5) dX7_readDead_5 fl_X7_109 (by apply lkE; (with_reducible first | exact lkM_129 hp | exact lkM_133 hp | exact lkM_144 hp | exact lkM_134 hp | exact lkM_130 hp | exact lkM_131 hp | exact lkM_132 hp | exact lkM_135 hp | exact lkM_136 hp | exact lkM_137 hp | exact lkM_138 hp | exact lkM_145 hp | exact lkM_146 hp | exact lkM_139 hp | exact lkM_140 hp | exact lkM_141 hp | exact lkM_142 hp | exact lkM_143 hp); rfl) rfl ?_
  refine j_aload_n (pc := 8) dX7_readDead_8 rfl ?_
  refine j_iconst (pc := 9) dX7_readDead_9 kc_1 ?_
  refine j_bipush (pc := 10) dX7_readDead_10 kb_40 ?_
  refine j_v2 (pc := 12) (ci := 7) dX7_readDead_12 mc_X7_takesNumber ml_X7_112 im_X7_takesNumber se_X7_takesNumber rfl rfl (by apply lkE; (with_reducible first | exact lkM_129 hp | exact lkM_133 hp | exact lkM_144 hp | exact lkM_134 hp | exact lkM_130 hp | exact lkM_131 hp | exact lkM_132 hp | exact lkM_135 hp | exact lkM_136 hp | exact lkM_137 hp | exact lkM_138 hp | exact lkM_145 hp | exact lkM_146 hp | exact lkM_139 hp | exact lkM_140 hp | exact lkM_141 hp | exact lkM_142 hp | exact lkM_143 hp); rfl) (by omega) (m_takes0 hp htn hL hx (c := s.1) (a := s.2.1) (tk := s.2.2.1) (nu := s.2.2.2.1) (w := s.2.2.2.2) hs) (Nat.le_of_ble_eq_true rfl) ?_
  refine j_iastE (pc := 15) dX7_readDead_15 (by apply lkE; (with_reducible first | exact lkM_129 hp | exact lkM_133 hp | exact lkM_144 hp | exact lkM_134 hp | exact lkM_130 hp | exact lkM_131 hp | exact lkM_132 hp | exact lkM_135 hp | exact lkM_136 hp | exact lkM_137 hp | exact lkM_138 hp | exact lkM_145 hp | exact lkM_146 hp | exact lkM_139 hp | exact lkM_140 hp | exact lkM_141 hp | exact lkM_142 hp | exact lkM_143 hp); rfl) rfl (by omega) (by decide) (upM_140 hp) ?_
  refine j_aload_n (pc := 16) dX7_readDead_16 rfl ?_
  refine j_getf (pc := 17) dX7_readDead_17 fl_X7_51 (by apply lkE; (with_reducible first | exact lkM_129 hp | exact lkM_133 hp | exact lkM_144 hp | exact lkM_134 hp | exact lkM_130 hp | exact lkM_131 hp | exact lkM_132 hp | exact lkM_135 hp | exact lkM_136 hp | exact lkM_137 hp | exact lkM_138 hp | exact lkM_145 hp | exact lkM_146 hp | exact lkM_139 hp | exact lkM_140 hp | exact lkM_141 hp | exact lkM_142 hp | exact lkM_143 hp); rfl) rfl ?_
  refine j_aload_n (pc := 20) dX7_readDead_20 rfl ?_
  refine j_getf (pc := 21) dX7_readDead_21 fl_X7_109 (by apply lkE; (with_reducible first | exact lkM_129 hp | exact lkM_133 hp | exact lkM_144 hp | exact lkM_134 hp | exact lkM_130 hp | exact lkM_131 hp | exact lkM_132 hp | exact lkM_135 hp | exact lkM_136 hp | exact lkM_137 hp | exact lkM_138 hp | exact lkM_145 hp | exact lkM_146 hp | exact lkM_139 hp | exact lkM_140 hp | exact lkM_141 hp | exact lkM_142 hp | exact lkM_143 hp); rfl) rfl ?_
  refine j_aload_n (pc := 24) dX7_readDead_24 rfl ?_
  refine j_iconst (pc := 25) dX7_readDead_25 kc_0 ?_
  refine j_bipush (pc := 26) dX7_readDead_26 kb_9 ?_
  refine j_v2 (pc := 28) (ci := 7) dX7_readDead_28 mc_X7_takesNumber ml_X7_112 im_X7_takesNumber se_X7_takesNumber rfl rfl (by apply lkE; (with_reducible first | exact lkM_129 hp | exact lkM_133 hp | exact lkM_144 hp | exact lkM_134 hp | exact lkM_130 hp | exact lkM_131 hp | exact lkM_132 hp | exact lkM_135 hp | exact lkM_136 hp | exact lkM_137 hp | exact lkM_138 hp | exact lkM_145 hp | exact lkM_146 hp | exact lkM_139 hp | exact lkM_140 hp | exact lkM_141 hp | exact lkM_142 hp | exact lkM_143 hp); rfl) (by omega) (m_takes0 hp htn hL hx (c := (tnS tx L 1 40 s).1) (a := (tnS tx L 1 40 s).2.1) (tk := (tnS tx L 1 40 s).2.2.1) (nu := (tnS tx L 1 40 s).2.2.2.1) (w := (tnS tx L 1 40 s).2.2.2.2) z1.1) (Nat.le_of_ble_eq_true rfl) ?_
  refine j_iastE (pc := 31) dX7_readDead_31 (by apply lkE; (with_reducible first | exact lkM_129 hp | exact lkM_133 hp | exact lkM_144 hp | exact lkM_134 hp | exact lkM_130 hp | exact lkM_131 hp | exact lkM_132 hp | exact lkM_135 hp | exact lkM_136 hp | exact lkM_137 hp | exact lkM_138 hp | exact lkM_145 hp | exact lkM_146 hp | exact lkM_139 hp | exact lkM_140 hp | exact lkM_141 hp | exact lkM_142 hp | exact lkM_143 hp); rfl) rfl (by omega) (by decide) (upM_141 hp) ?_
  refine j_iconst (pc := 32) dX7_readDead_32 kc_0 ?_
  refine j_istore_n (pc := 33) dX7_readDead_33 rfl (Nat.le_of_ble_eq_true rfl) rfl ?_
  refine ml_readDid hp htn hL hx 151 0 (tnS tx L 0 9 (tnS tx L 1 40 s)) z2.1 (fun _ _ => by omega) ?_
  refine j_aload_n (pc := 118) dX7_readDead_118 rfl ?_
  refine j_getf (pc := 119) dX7_readDead_119 fl_X7_54 (by apply lkE; (with_reducible first | exact lkM_129 hp | exact lkM_133 hp | exact lkM_144 hp | exact lkM_134 hp | exact lkM_130 hp | exact lkM_131 hp | exact lkM_132 hp | exact lkM_135 hp | exact lkM_136 hp | exact lkM_137 hp | exact lkM_138 hp | exact lkM_145 hp | exact lkM_146 hp | exact lkM_139 hp | exact lkM_140 hp | exact lkM_141 hp | exact lkM_142 hp | exact lkM_143 hp); rfl) rfl ?_
  refine j_aload_n (pc := 122) dX7_readDead_122 rfl ?_
  refine j_getf (pc := 123) dX7_readDead_123 fl_X7_109 (by apply lkE; (with_reducible first | exact lkM_129 hp | exact lkM_133 hp | exact lkM_144 hp | exact lkM_134 hp | exact lkM_130 hp | exact lkM_131 hp | exact lkM_132 hp | exact lkM_135 hp | exact lkM_136 hp | exact lkM_137 hp | exact lkM_138 hp | exact lkM_145 hp | exact lkM_146 hp | exact lkM_139 hp | exact lkM_140 hp | exact lkM_141 hp | exact lkM_142 hp | exact lkM_143 hp); rfl) rfl ?_
  refine j_iload_n (pc := 126) dX7_readDead_126 rfl ?_
  refine j_iastE (pc := 127) dX7_readDead_127 (by apply lkE; (with_reducible first | exact lkM_129 hp | exact lkM_133 hp | exact lkM_144 hp | exact lkM_134 hp | exact lkM_130 hp | exact lkM_131 hp | exact lkM_132 hp | exact lkM_135 hp | exact lkM_136 hp | exact lkM_137 hp | exact lkM_138 hp | exact lkM_145 hp | exact lkM_146 hp | exact lkM_139 hp | exact lkM_140 hp | exact lkM_141 hp | exact lkM_142 hp | exact lkM_143 hp); rfl) rfl (by omega) (by decide) (upM_142 hp) ?_
  refine j_aload_n (pc := 128) dX7_readDead_128 rfl ?_
  refine j_dup (pc := 129) dX7_readDead_129 rfl ?_
  refine j_getf (pc := 130) dX7_readDead_130 fl_X7_109 (by apply lkE; (with_reducible first | exact lkM_129 hp | exact lkM_133 hp | exact lkM_144 hp | exact lkM_134 hp | exact lkM_130 hp | exact lkM_131 hp | exact lkM_132 hp | exact lkM_135 hp | exact lkM_136 hp | exact lkM_137 hp | exact lkM_138 hp | exact lkM_145 hp | exact lkM_146 hp | exact lkM_139 hp | exact lkM_140 hp | exact lkM_141 hp | exact lkM_142 hp | exact lkM_143 hp); rfl) rfl ?_
  refine j_iconst (pc := 133) dX7_readDead_133 kc_1 ?_
  refine j_iadd (pc := 134) dX7_readDead_134 ?_
  rw [nI_s1]
  refine j_putf (pc := 135) dX7_readDead_135 fl_X7_109 (jfit_i _) (by apply lkE; (with_reducible first | exact lkM_129 hp | exact lkM_133 hp | exact lkM_144 hp | exact lkM_134 hp | exact lkM_130 hp | exact lkM_131 hp | exact lkM_132 hp | exact lkM_135 hp | exact lkM_136 hp | exact lkM_137 hp | exact lkM_138 hp | exact lkM_145 hp | exact lkM_146 hp | exact lkM_139 hp | exact lkM_140 hp | exact lkM_141 hp | exact lkM_142 hp | exact lkM_143 hp); rfl) (upM_129 hp) ?_
  refine j_return (pc := 138) dX7_readDead_138 rfl ?_
  exact ⟨rfl, rfl⟩

set_option maxRecDepth 20000 in
set_option maxHeartbeats 200000 in
theorem m_mayBegin (hp : pre.length = 129) {c : Int32} : CD g 0 mX7_mayBegin [.ref 129, .int c] (W2 pre de we da bo be sg pi ru st wa kn im ik tm to tr tx tn cu sa tk nu wr it sd swt sdd sbx sfl sdi sb sst sp sr nw od bs) (some (.int (b2i (mbM c sd sdd sb sp sr)))) (W2 pre de we da bo be sg pi ru st wa kn im ik tm to tr tx tn cu sa tk nu wr it sd swt sdd sbx sfl sdi sb sst sp sr nw od bs) := by
  refine C.of (by decide +kernel) (by simp [Value.category]) (Nat.le_of_ble_eq_true rfl) ?_
  change J g mX7_mayBegin 0 0 0 _ (W2 pre de we da bo be sg pi ru st wa kn im ik tm to tr tx tn cu sa tk nu wr it sd swt sdd sbx sfl sdi sb sst sp sr nw od bs) 0 [some (.ref 129), some (.int c)] []
  refine j_iload_n (pc := 0) dX7_mayBegin_0 rfl ?_
  by_cases zs1_0 : c = 98
  · refine j_lookup (pc := 1) (off := 73) (tgt := 74) dX7_mayBegin_1 (by decide) (by rw [zs1_0]; decide) rfl ?_
    refine j_aload_n (pc := 74) dX7_mayBegin_74 rfl ?_
    refine j_getf (pc := 75) dX7_mayBegin_75 fl_X7_123 (by apply lkE; (with_reducible first | exact lkM_129 hp | exact lkM_133 hp | exact lkM_144 hp | exact lkM_134 hp | exact lkM_130 hp | exact lkM_131 hp | exact lkM_132 hp | exact lkM_135 hp | exact lkM_136 hp | exact lkM_137 hp | exact lkM_138 hp | exact lkM_145 hp | exact lkM_146 hp | exact lkM_139 hp | exact lkM_140 hp | exact lkM_141 hp | exact lkM_142 hp | exact lkM_143 hp); rfl) rfl ?_
    refine j_bipush (pc := 78) dX7_mayBegin_78 kb_6 ?_
    refine j_icmp_ge (pc := 80) (tgt := 87) dX7_mayBegin_80 rfl (fun zc80 => ?_) (fun zc80 => ?_)
    · refine j_iconst (pc := 87) dX7_mayBegin_87 kc_0 ?_
      refine j_zret (pc := 88) (b := mbM c sd sdd sb sp sr) dX7_mayBegin_88 rfl (by simp [mbM, b2i, *]) ?_
      exact ⟨rfl, rfl⟩
    · refine j_iconst (pc := 83) dX7_mayBegin_83 kc_1 ?_
      refine j_goto (pc := 84) (tgt := 88) dX7_mayBegin_84 rfl ?_
      refine j_zret (pc := 88) (b := mbM c sd sdd sb sp sr) dX7_mayBegin_88 rfl (by simp [mbM, b2i, *]) ?_
      exact ⟨rfl, rfl⟩
  by_cases zs1_1 : c = 100
  · refine j_lookup (pc := 1) (off := 43) (tgt := 44) dX7_mayBegin_1 (by decide) (by rw [zs1_1]; decide) rfl ?_
    refine j_aload_n (pc := 44) dX7_mayBegin_44 rfl ?_
    refine j_getf (pc := 45) dX7_mayBegin_45 fl_X7_116 (by apply lkE; (with_reducible first | exact lkM_129 hp | exact lkM_133 hp | exact lkM_144 hp | exact lkM_134 hp | exact lkM_130 hp | exact lkM_131 hp | exact lkM_132 hp | exact lkM_135 hp | exact lkM_136 hp | exact lkM_137 hp | exact lkM_138 hp | exact lkM_145 hp | exact lkM_146 hp | exact lkM_139 hp | exact lkM_140 hp | exact lkM_141 hp | exact lkM_142 hp | exact lkM_143 hp); rfl) rfl ?_
    refine j_bipush (pc := 48) dX7_mayBegin_48 kb_6 ?_
    refine j_icmp_ge (pc := 50) (tgt := 57) dX7_mayBegin_50 rfl (fun zc50 => ?_) (fun zc50 => ?_)
    · refine j_iconst (pc := 57) dX7_mayBegin_57 kc_0 ?_
      refine j_zret (pc := 58) (b := mbM c sd sdd sb sp sr) dX7_mayBegin_58 rfl (by simp [mbM, b2i, *]) ?_
      exact ⟨rfl, rfl⟩
    · refine j_iconst (pc := 53) dX7_mayBegin_53 kc_1 ?_
      refine j_goto (pc := 54) (tgt := 58) dX7_mayBegin_54 rfl ?_
      refine j_zret (pc := 58) (b := mbM c sd sdd sb sp sr) dX7_mayBegin_58 rfl (by simp [mbM, b2i, *]) ?_
      exact ⟨rfl, rfl⟩
  by_cases zs1_2 : c = 108
  · refine j_lookup (pc := 1) (off := 58) (tgt := 59) dX7_mayBegin_1 (by decide) (by rw [zs1_2]; decide) rfl ?_
    refine j_aload_n (pc := 59) dX7_mayBegin_59 rfl ?_
    refine j_getf (pc := 60) dX7_mayBegin_60 fl_X7_109 (by apply lkE; (with_reducible first | exact lkM_129 hp | exact lkM_133 hp | exact lkM_144 hp | exact lkM_134 hp | exact lkM_130 hp | exact lkM_131 hp | exact lkM_132 hp | exact lkM_135 hp | exact lkM_136 hp | exact lkM_137 hp | exact lkM_138 hp | exact lkM_145 hp | exact lkM_146 hp | exact lkM_139 hp | exact lkM_140 hp | exact lkM_141 hp | exact lkM_142 hp | exact lkM_143 hp); rfl) rfl ?_
    refine j_bipush (pc := 63) dX7_mayBegin_63 kb_6 ?_
    refine j_icmp_ge (pc := 65) (tgt := 72) dX7_mayBegin_65 rfl (fun zc65 => ?_) (fun zc65 => ?_)
    · refine j_iconst (pc := 72) dX7_mayBegin_72 kc_0 ?_
      refine j_zret (pc := 73) (b := mbM c sd sdd sb sp sr) dX7_mayBegin_73 rfl (by simp [mbM, b2i, *]) ?_
      exact ⟨rfl, rfl⟩
    · refine j_iconst (pc := 68) dX7_mayBegin_68 kc_1 ?_
      refine j_goto (pc := 69) (tgt := 73) dX7_mayBegin_69 rfl ?_
      refine j_zret (pc := 73) (b := mbM c sd sdd sb sp sr) dX7_mayBegin_73 rfl (by simp [mbM, b2i, *]) ?_
      exact ⟨rfl, rfl⟩
  by_cases zs1_3 : c = 112
  · refine j_lookup (pc := 1) (off := 88) (tgt := 89) dX7_mayBegin_1 (by decide) (by rw [zs1_3]; decide) rfl ?_
    refine j_aload_n (pc := 89) dX7_mayBegin_89 rfl ?_
    refine j_getf (pc := 90) dX7_mayBegin_90 fl_X7_126 (by apply lkE; (with_reducible first | exact lkM_129 hp | exact lkM_133 hp | exact lkM_144 hp | exact lkM_134 hp | exact lkM_130 hp | exact lkM_131 hp | exact lkM_132 hp | exact lkM_135 hp | exact lkM_136 hp | exact lkM_137 hp | exact lkM_138 hp | exact lkM_145 hp | exact lkM_146 hp | exact lkM_139 hp | exact lkM_140 hp | exact lkM_141 hp | exact lkM_142 hp | exact lkM_143 hp); rfl) rfl ?_
    refine j_if_ge (pc := 93) (tgt := 100) dX7_mayBegin_93 rfl (fun zc93 => ?_) (fun zc93 => ?_)
    · refine j_iconst (pc := 100) dX7_mayBegin_100 kc_0 ?_
      refine j_zret (pc := 101) (b := mbM c sd sdd sb sp sr) dX7_mayBegin_101 rfl (by simp [mbM, b2i, *]) ?_
      exact ⟨rfl, rfl⟩
    · refine j_iconst (pc := 96) dX7_mayBegin_96 kc_1 ?_
      refine j_goto (pc := 97) (tgt := 101) dX7_mayBegin_97 rfl ?_
      refine j_zret (pc := 101) (b := mbM c sd sdd sb sp sr) dX7_mayBegin_101 rfl (by simp [mbM, b2i, *]) ?_
      exact ⟨rfl, rfl⟩
  refine j_lookup (pc := 1) (off := 101) (tgt := 102) dX7_mayBegin_1 (by decide) (by rw [lv_osw zs1_0 (a := 98) (by decide), lv_osw zs1_1 (a := 100) (by decide), lv_osw zs1_2 (a := 108) (by decide), lv_osw zs1_3 (a := 112) (by decide)]; rfl) rfl ?_
  refine j_aload_n (pc := 102) dX7_mayBegin_102 rfl ?_
  refine j_getf (pc := 103) dX7_mayBegin_103 fl_X7_129 (by apply lkE; (with_reducible first | exact lkM_129 hp | exact lkM_133 hp | exact lkM_144 hp | exact lkM_134 hp | exact lkM_130 hp | exact lkM_131 hp | exact lkM_132 hp | exact lkM_135 hp | exact lkM_136 hp | exact lkM_137 hp | exact lkM_138 hp | exact lkM_145 hp | exact lkM_146 hp | exact lkM_139 hp | exact lkM_140 hp | exact lkM_141 hp | exact lkM_142 hp | exact lkM_143 hp); rfl) rfl ?_
  refine j_if_ge (pc := 106) (tgt := 113) dX7_mayBegin_106 rfl (fun zc106 => ?_) (fun zc106 => ?_)
  · refine j_iconst (pc := 113) dX7_mayBegin_113 kc_0 ?_
    refine j_zret (pc := 114) (b := mbM c sd sdd sb sp sr) dX7_mayBegin_114 rfl (by simp [mbM, b2i, *]) ?_
    exact ⟨rfl, rfl⟩
  · refine j_iconst (pc := 109) dX7_mayBegin_109 kc_1 ?_
    refine j_goto (pc := 110) (tgt := 114) dX7_mayBegin_110 rfl ?_
    refine j_zret (pc := 114) (b := mbM c sd sdd sb sp sr) dX7_mayBegin_114 rfl (by simp [mbM, b2i, *]) ?_
    exact ⟨rfl, rfl⟩

set_option maxRecDepth 20000 in
set_option maxHeartbeats 400000 in
theorem m_close (hp : pre.length = 129) {L : Nat} (htn : tn = nI L) (hL : L ≤ 150) (hx : ∀ k, k < L → 0 ≤ tx k) {s : MSt} (hs : s.1 ≤ L) {o : Option Value} : Q none (W2 pre de we da bo be sg pi ru st wa kn im ik tm to tr tx tn (nI (closeM tx L s).1) (nI (closeM tx L s).2.1) ((closeM tx L s).2.2.1) ((closeM tx L s).2.2.2.1) ((closeM tx L s).2.2.2.2) it sd swt sdd sbx sfl sdi sb sst sp sr nw od bs) → J g mX7_readItem 6 0 0 Q (W2 pre de we da bo be sg pi ru st wa kn im ik tm to tr tx tn (nI (s).1) (nI (s).2.1) ((s).2.2.1) ((s).2.2.2.1) ((s).2.2.2.2) it sd swt sdd sbx sfl sdi sb sst sp sr nw od bs) 36 [some (.ref 129), o] [] := by
  intro hq
  refine j_aload_n (pc := 36) dX7_readItem_36 rfl ?_
  refine j_aload_n (pc := 37) dX7_readItem_37 rfl ?_
  refine j_getf (pc := 38) dX7_readItem_38 fl_X7_102 (by apply lkE; (with_reducible first | exact lkM_129 hp | exact lkM_133 hp | exact lkM_144 hp | exact lkM_134 hp | exact lkM_130 hp | exact lkM_131 hp | exact lkM_132 hp | exact lkM_135 hp | exact lkM_136 hp | exact lkM_137 hp | exact lkM_138 hp | exact lkM_145 hp | exact lkM_146 hp | exact lkM_139 hp | exact lkM_140 hp | exact lkM_141 hp | exact lkM_142 hp | exact lkM_143 hp); rfl) rfl ?_
  refine j_bne (pc := 41) (tgt := 52) dX7_readItem_41 rfl (fun zc41 => ?_) (fun zc41 => ?_)
  · refine j_iconst (pc := 52) dX7_readItem_52 kc_1 ?_
    refine j_goto (pc := 53) (tgt := 57) dX7_readItem_53 rfl ?_
    refine j_putf (pc := 57) dX7_readItem_57 fl_X7_102 (by first | exact jfit_z true | exact jfit_z false) (by apply lkE; (with_reducible first | exact lkM_129 hp | exact lkM_133 hp | exact lkM_144 hp | exact lkM_134 hp | exact lkM_130 hp | exact lkM_131 hp | exact lkM_132 hp | exact lkM_135 hp | exact lkM_136 hp | exact lkM_137 hp | exact lkM_138 hp | exact lkM_145 hp | exact lkM_146 hp | exact lkM_139 hp | exact lkM_140 hp | exact lkM_141 hp | exact lkM_142 hp | exact lkM_143 hp); rfl) (by first | exact upM_129 (wr2 := true) hp | exact upM_129 (wr2 := false) hp) ?_
    refine j_aload_n (pc := 60) dX7_readItem_60 rfl ?_
    refine j_getf (pc := 61) dX7_readItem_61 fl_X7_102 (by apply lkE; (with_reducible first | exact lkM_129 hp | exact lkM_133 hp | exact lkM_144 hp | exact lkM_134 hp | exact lkM_130 hp | exact lkM_131 hp | exact lkM_132 hp | exact lkM_135 hp | exact lkM_136 hp | exact lkM_137 hp | exact lkM_138 hp | exact lkM_145 hp | exact lkM_146 hp | exact lkM_139 hp | exact lkM_140 hp | exact lkM_141 hp | exact lkM_142 hp | exact lkM_143 hp); rfl) rfl ?_
    refine j_bne (pc := 64) (tgt := 71) dX7_readItem_64 rfl (fun zc64 => ?_) (fun zc64 => ?_)
    · refine j_return (pc := 71) dX7_readItem_71 rfl ?_
      first
        | exact absurd zc64 (by decide)
        | (rw [closeM, if_pos ⟨zc41, zc49⟩] at hq
           rw [show nextM tx L s = nextM tx L (s.1, s.2.1, s.2.2.1, s.2.2.2.1, false) from by rw [← zc41]] at hq
           exact hq)
        | (rw [closeM, if_neg (show ¬ (s.2.2.2.2 = false ∧ s.2.2.1 = 3) from fun q => by first | exact zc49 q.2 | exact absurd (zc41.symm.trans q.1) (by decide))] at hq
           exact hq)
    · refine j_aload_n (pc := 67) dX7_readItem_67 rfl ?_
      refine j_v0n (pc := 68) (ci := 7) dX7_readItem_68 mc_X7_next ml_X7_106 im_X7_next se_X7_next rfl rfl (by apply lkE; (with_reducible first | exact lkM_129 hp | exact lkM_133 hp | exact lkM_144 hp | exact lkM_134 hp | exact lkM_130 hp | exact lkM_131 hp | exact lkM_132 hp | exact lkM_135 hp | exact lkM_136 hp | exact lkM_137 hp | exact lkM_138 hp | exact lkM_145 hp | exact lkM_146 hp | exact lkM_139 hp | exact lkM_140 hp | exact lkM_141 hp | exact lkM_142 hp | exact lkM_143 hp); rfl) (by omega) (m_next0 hp htn hL hx (c := s.1) (a := s.2.1) (tk := s.2.2.1) (nu := s.2.2.2.1) hs) (Nat.le_of_ble_eq_true rfl) ?_
      refine j_return (pc := 71) dX7_readItem_71 rfl ?_
      first
        | exact absurd zc64 (by decide)
        | (rw [closeM, if_pos ⟨zc41, zc49⟩] at hq
           rw [show nextM tx L s = nextM tx L (s.1, s.2.1, s.2.2.1, s.2.2.2.1, false) from by rw [← zc41]] at hq
           exact hq)
        | (rw [closeM, if_neg (show ¬ (s.2.2.2.2 = false ∧ s.2.2.1 = 3) from fun q => by first | exact zc49 q.2 | exact absurd (zc41.symm.trans q.1) (by decide))] at hq
           exact hq)
  · refine j_aload_n (pc := 44) dX7_readItem_44 rfl ?_
    refine j_getf (pc := 45) dX7_readItem_45 fl_X7_95 (by apply lkE; (with_reducible first | exact lkM_129 hp | exact lkM_133 hp | exact lkM_144 hp | exact lkM_134 hp | exact lkM_130 hp | exact lkM_131 hp | exact lkM_132 hp | exact lkM_135 hp | exact lkM_136 hp | exact lkM_137 hp | exact lkM_138 hp | exact lkM_145 hp | exact lkM_146 hp | exact lkM_139 hp | exact lkM_140 hp | exact lkM_141 hp | exact lkM_142 hp | exact lkM_143 hp); rfl) rfl ?_
    refine j_iconst (pc := 48) dX7_readItem_48 kc_3 ?_
    refine j_icmp_eq (pc := 49) (tgt := 56) dX7_readItem_49 rfl (fun zc49 => ?_) (fun zc49 => ?_)
    · refine j_iconst (pc := 56) dX7_readItem_56 kc_0 ?_
      refine j_putf (pc := 57) dX7_readItem_57 fl_X7_102 (by first | exact jfit_z true | exact jfit_z false) (by apply lkE; (with_reducible first | exact lkM_129 hp | exact lkM_133 hp | exact lkM_144 hp | exact lkM_134 hp | exact lkM_130 hp | exact lkM_131 hp | exact lkM_132 hp | exact lkM_135 hp | exact lkM_136 hp | exact lkM_137 hp | exact lkM_138 hp | exact lkM_145 hp | exact lkM_146 hp | exact lkM_139 hp | exact lkM_140 hp | exact lkM_141 hp | exact lkM_142 hp | exact lkM_143 hp); rfl) (by first | exact upM_129 (wr2 := true) hp | exact upM_129 (wr2 := false) hp) ?_
      refine j_aload_n (pc := 60) dX7_readItem_60 rfl ?_
      refine j_getf (pc := 61) dX7_readItem_61 fl_X7_102 (by apply lkE; (with_reducible first | exact lkM_129 hp | exact lkM_133 hp | exact lkM_144 hp | exact lkM_134 hp | exact lkM_130 hp | exact lkM_131 hp | exact lkM_132 hp | exact lkM_135 hp | exact lkM_136 hp | exact lkM_137 hp | exact lkM_138 hp | exact lkM_145 hp | exact lkM_146 hp | exact lkM_139 hp | exact lkM_140 hp | exact lkM_141 hp | exact lkM_142 hp | exact lkM_143 hp); rfl) rfl ?_
      refine j_bne (pc := 64) (tgt := 71) dX7_readItem_64 rfl (fun zc64 => ?_) (fun zc64 => ?_)
      · refine j_return (pc := 71) dX7_readItem_71 rfl ?_
        first
          | exact absurd zc64 (by decide)
          | (rw [closeM, if_pos ⟨zc41, zc49⟩] at hq
             rw [show nextM tx L s = nextM tx L (s.1, s.2.1, s.2.2.1, s.2.2.2.1, false) from by rw [← zc41]] at hq
             exact hq)
          | (rw [closeM, if_neg (show ¬ (s.2.2.2.2 = false ∧ s.2.2.1 = 3) from fun q => by first | exact zc49 q.2 | exact absurd (zc41.symm.trans q.1) (by decide))] at hq
             exact hq)
      · refine j_aload_n (pc := 67) dX7_readItem_67 rfl ?_
        refine j_v0n (pc := 68) (ci := 7) dX7_readItem_68 mc_X7_next ml_X7_106 im_X7_next se_X7_next rfl rfl (by apply lkE; (with_reducible first | exact lkM_129 hp | exact lkM_133 hp | exact lkM_144 hp | exact lkM_134 hp | exact lkM_130 hp | exact lkM_131 hp | exact lkM_132 hp | exact lkM_135 hp | exact lkM_136 hp | exact lkM_137 hp | exact lkM_138 hp | exact lkM_145 hp | exact lkM_146 hp | exact lkM_139 hp | exact lkM_140 hp | exact lkM_141 hp | exact lkM_142 hp | exact lkM_143 hp); rfl) (by omega) (m_next0 hp htn hL hx (c := s.1) (a := s.2.1) (tk := s.2.2.1) (nu := s.2.2.2.1) hs) (Nat.le_of_ble_eq_true rfl) ?_
        refine j_return (pc := 71) dX7_readItem_71 rfl ?_
        first
          | exact absurd zc64 (by decide)
          | (rw [closeM, if_pos ⟨zc41, zc49⟩] at hq
             rw [show nextM tx L s = nextM tx L (s.1, s.2.1, s.2.2.1, s.2.2.2.1, false) from by rw [← zc41]] at hq
             exact hq)
          | (rw [closeM, if_neg (show ¬ (s.2.2.2.2 = false ∧ s.2.2.1 = 3) from fun q => by first | exact zc49 q.2 | exact absurd (zc41.symm.trans q.1) (by decide))] at hq
             exact hq)
    · refine j_iconst (pc := 52) dX7_readItem_52 kc_1 ?_
      refine j_goto (pc := 53) (tgt := 57) dX7_readItem_53 rfl ?_
      refine j_putf (pc := 57) dX7_readItem_57 fl_X7_102 (by first | exact jfit_z true | exact jfit_z false) (by apply lkE; (with_reducible first | exact lkM_129 hp | exact lkM_133 hp | exact lkM_144 hp | exact lkM_134 hp | exact lkM_130 hp | exact lkM_131 hp | exact lkM_132 hp | exact lkM_135 hp | exact lkM_136 hp | exact lkM_137 hp | exact lkM_138 hp | exact lkM_145 hp | exact lkM_146 hp | exact lkM_139 hp | exact lkM_140 hp | exact lkM_141 hp | exact lkM_142 hp | exact lkM_143 hp); rfl) (by first | exact upM_129 (wr2 := true) hp | exact upM_129 (wr2 := false) hp) ?_
      refine j_aload_n (pc := 60) dX7_readItem_60 rfl ?_
      refine j_getf (pc := 61) dX7_readItem_61 fl_X7_102 (by apply lkE; (with_reducible first | exact lkM_129 hp | exact lkM_133 hp | exact lkM_144 hp | exact lkM_134 hp | exact lkM_130 hp | exact lkM_131 hp | exact lkM_132 hp | exact lkM_135 hp | exact lkM_136 hp | exact lkM_137 hp | exact lkM_138 hp | exact lkM_145 hp | exact lkM_146 hp | exact lkM_139 hp | exact lkM_140 hp | exact lkM_141 hp | exact lkM_142 hp | exact lkM_143 hp); rfl) rfl ?_
      refine j_bne (pc := 64) (tgt := 71) dX7_readItem_64 rfl (fun zc64 => ?_) (fun zc64 => ?_)
      · refine j_return (pc := 71) dX7_readItem_71 rfl ?_
        first
          | exact absurd zc64 (by decide)
          | (rw [closeM, if_pos ⟨zc41, zc49⟩] at hq
             rw [show nextM tx L s = nextM tx L (s.1, s.2.1, s.2.2.1, s.2.2.2.1, false) from by rw [← zc41]] at hq
             exact hq)
          | (rw [closeM, if_neg (show ¬ (s.2.2.2.2 = false ∧ s.2.2.1 = 3) from fun q => by first | exact zc49 q.2 | exact absurd (zc41.symm.trans q.1) (by decide))] at hq
             exact hq)
      · refine j_aload_n (pc := 67) dX7_readItem_67 rfl ?_
        refine j_v0n (pc := 68) (ci := 7) dX7_readItem_68 mc_X7_next ml_X7_106 im_X7_next se_X7_next rfl rfl (by apply lkE; (with_reducible first | exact lkM_129 hp | exact lkM_133 hp | exact lkM_144 hp | exact lkM_134 hp | exact lkM_130 hp | exact lkM_131 hp | exact lkM_132 hp | exact lkM_135 hp | exact lkM_136 hp | exact lkM_137 hp | exact lkM_138 hp | exact lkM_145 hp | exact lkM_146 hp | exact lkM_139 hp | exact lkM_140 hp | exact lkM_141 hp | exact lkM_142 hp | exact lkM_143 hp); rfl) (by omega) (m_next0 hp htn hL hx (c := s.1) (a := s.2.1) (tk := s.2.2.1) (nu := s.2.2.2.1) hs) (Nat.le_of_ble_eq_true rfl) ?_
        refine j_return (pc := 71) dX7_readItem_71 rfl ?_
        first
          | exact absurd zc64 (by decide)
          | (rw [closeM, if_pos ⟨zc41, zc49⟩] at hq
             rw [show nextM tx L s = nextM tx L (s.1, s.2.1, s.2.2.1, s.2.2.2.1, false) from by rw [← zc41]] at hq
             exact hq)
          | (rw [closeM, if_neg (show ¬ (s.2.2.2.2 = false ∧ s.2.2.1 = 3) from fun q => by first | exact zc49 q.2 | exact absurd (zc41.symm.trans q.1) (by decide))] at hq
             exact hq)

end

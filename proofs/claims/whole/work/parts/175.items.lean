/-! the class's reader: items -/
section
variable {g : GG} {h : List AC} {Q : Option Value → List AC → Prop} {scr : AC} {tl : List AC} {lt : Fn} {lc : Int32} {rd : RdV} {sw : Bool} {P : ParV} {D : ParV} {S : ScV} {kk : Int32} {nx : Int32} {ring : Nat → ScV} {bu : Fn} {im : Nat → ScV} {kept : Int32} {tb : Fn} {tr : Fn} {tc : Int32} {ts : Int64}
def opR (lt : Fn) (L : Nat) (may : Bool) (s : PSt) : PSt := if may then tkS lt L s else wrS s
def okN (lo hi : Int32) (s : PSt) : Bool := !s.2.2.2.2.1 && (decide (s.2.2.1 = 1) && jin s.2.2.2.1 lo hi)
def nuR (lt : Fn) (L : Nat) (lo hi : Int32) (s : PSt) : PSt := if okN lo hi s then tkS lt L s else wrS s
def nuV (lo hi : Int32) (s : PSt) : Int32 := if okN lo hi s then s.2.2.2.1 else lo
def okC (s : PSt) : Bool := !s.2.2.2.2.1 && decide (s.2.2.1 = 59)
def clR (lt : Fn) (L : Nat) (s : PSt) : PSt := if okC s then tkS lt L s else wrS s
def clD (s : PSt) (D : ParV) : ParV := if okC s then (D.1 + 1, D.2.1, D.2.2.1, D.2.2.2.1, D.2.2.2.2.1, D.2.2.2.2.2.1, D.2.2.2.2.2.2.1, D.2.2.2.2.2.2.2.1, D.2.2.2.2.2.2.2.2.1, D.2.2.2.2.2.2.2.2.2.1, D.2.2.2.2.2.2.2.2.2.2) else D
def adDe (D : ParV) (x : Int32) : ParV := (D.1, D.2.1 + 1, D.2.2.1, D.2.2.2.1, D.2.2.2.2.1, D.2.2.2.2.2.1, rPut 6 D.2.2.2.2.2.2.1 D.2.1 x, D.2.2.2.2.2.2.2.1, D.2.2.2.2.2.2.2.2.1, D.2.2.2.2.2.2.2.2.2.1, D.2.2.2.2.2.2.2.2.2.2)
def adDd (D : ParV) (x y z : Int32) : ParV := (D.1, D.2.1, D.2.2.1 + 1, D.2.2.2.1, D.2.2.2.2.1, D.2.2.2.2.2.1, D.2.2.2.2.2.2.1, rPut 6 D.2.2.2.2.2.2.2.1 D.2.2.1 x, rPut 6 D.2.2.2.2.2.2.2.2.1 D.2.2.1 y, rPut 6 D.2.2.2.2.2.2.2.2.2.1 D.2.2.1 z, D.2.2.2.2.2.2.2.2.2.2)
def adBe (D : ParV) (x : Int32) : ParV := (D.1, D.2.1, D.2.2.1, D.2.2.2.1 + 1, D.2.2.2.2.1, D.2.2.2.2.2.1, D.2.2.2.2.2.2.1, D.2.2.2.2.2.2.2.1, D.2.2.2.2.2.2.2.2.1, D.2.2.2.2.2.2.2.2.2.1, rPut 6 D.2.2.2.2.2.2.2.2.2.2 D.2.2.2.1 x)
def mbR (dd dn : Int32) (s : PSt) : Bool := decide (s.2.2.1 = 1) && (jlt s.2.2.2.1 dd && !tbit dn s.2.2.2.1)
def rdnR (lt : Fn) (L : Nat) (dd : Int32) : Nat → Int32 → PSt → Int32 × PSt
  | 0, dn, s => (dn, s)
  | m + 1, dn, s => if mbR dd dn s then rdnR lt L dd m (dn ||| bitI s.2.2.2.1) (tkS lt L s) else (dn, s)
def rdn (lt : Fn) (L : Nat) (dd : Int32) (s : PSt) : Int32 × PSt := if s.2.2.2.2.1 then (0, s) else rdnR lt L dd 6 0 s
theorem tkS_le {lt : Fn} {L : Nat} {s : PSt} (h : s.2.1 ≤ L) : (tkS lt L s).2.1 ≤ L := by
  have h1 := skR_ge lt (L - s.2.1) s.2.1
  show (tkR lt L s.2.1 s.2.2.2.1).2.1 ≤ L
  unfold tkR
  split
  · show skR lt (L - s.2.1) s.2.1 ≤ L
    omega
  · split
    · have h2 := nmR_ge lt (L - skR lt (L - s.2.1) s.2.1) (skR lt (L - s.2.1) s.2.1) 0
      show (nmR lt (L - skR lt (L - s.2.1) s.2.1) (skR lt (L - s.2.1) s.2.1) 0).1 ≤ L
      omega
    · show skR lt (L - s.2.1) s.2.1 + 1 ≤ L
      omega
theorem opR_le {lt : Fn} {L : Nat} {s : PSt} {may : Bool} (h : s.2.1 ≤ L) : (opR lt L may s).2.1 ≤ L := by
  unfold opR; split
  · exact tkS_le h
  · exact h
theorem nuR_le {lt : Fn} {L : Nat} {s : PSt} {lo hi : Int32} (h : s.2.1 ≤ L) : (nuR lt L lo hi s).2.1 ≤ L := by
  unfold nuR; split
  · exact tkS_le h
  · exact h
theorem clR_le {lt : Fn} {L : Nat} {s : PSt} (h : s.2.1 ≤ L) : (clR lt L s).2.1 ≤ L := by
  unfold clR; split
  · exact tkS_le h
  · exact h
theorem rdnR_le {lt : Fn} {L : Nat} {dd : Int32} : ∀ (m : Nat) (dn : Int32) (s : PSt), s.2.1 ≤ L → (rdnR lt L dd m dn s).2.2.1 ≤ L
  | 0, dn, s, h => h
  | m + 1, dn, s, h => by
    unfold rdnR; split
    · exact rdnR_le m _ _ (tkS_le h)
    · exact h
theorem rdn_le {lt : Fn} {L : Nat} {dd : Int32} {s : PSt} (h : s.2.1 ≤ L) : (rdn lt L dd s).2.2.1 ≤ L := by
  unfold rdn; split
  · exact h
  · exact rdnR_le 6 0 s h
set_option maxRecDepth 20000 in
set_option maxHeartbeats 200000 in
theorem x_open1 {L : Nat} (hL : L ≤ 150) {s : PSt} (hb : s.2.1 ≤ L)  : CD g 3 mX2_open [.ref 4, .int 1] (W1 scr tl lt lc (rdOf L s) sw P D S kk nx ring bu im kept tb tr tc ts) none (W1 scr tl lt lc (rdOf L (tkS lt L s)) sw P D S kk nx ring bu im kept tb tr tc ts) := by
  refine C.of (by decide +kernel) (by simp [Value.category]) (Nat.le_of_ble_eq_true rfl) ?_
  change J g mX2_open 3 0 0 _ (W1 scr tl lt lc (rdOf L s) sw P D S kk nx ring bu im kept tb tr tc ts) 0 [some (.ref 4), some (.int 1)] []
  refine j_iload_n (pc := 0) dX2_open_0 rfl ?_
  refine j_if_eq (pc := 1) (tgt := 11) dX2_open_1 rfl (fun zc1 => absurd zc1 (show ¬ (1 : Int32) = 0 by decide)) (fun _ => ?_)
  refine j_aload_n (pc := 4) dX2_open_4 rfl ?_
  refine j_v0n (pc := 5) (ci := 2) dX2_open_5 mc_X2_step ml_X2_37 im_X2_step se_X2_step rfl rfl (by apply lkE; (with_reducible first | exact lkX_4e | exact lkX_4 | exact lkX_d | exact lkX_d1 | exact lkX_d3 | exact lkX_d5 | exact lkX_d7 | exact lkX_d9 | exact lkX_2); rfl) (by omega) (x_step hL hb) (Nat.le_of_ble_eq_true rfl) ?_
  refine j_goto (pc := 8) (tgt := 16) dX2_open_8 rfl ?_
  refine j_return (pc := 16) dX2_open_16 rfl ?_
  exact ⟨rfl, rfl⟩

set_option maxRecDepth 20000 in
set_option maxHeartbeats 200000 in
theorem x_open0 {L : Nat} (hL : L ≤ 150) {s : PSt} (hb : s.2.1 ≤ L)  : CD g 3 mX2_open [.ref 4, .int 0] (W1 scr tl lt lc (rdOf L s) sw P D S kk nx ring bu im kept tb tr tc ts) none (W1 scr tl lt lc (rdOf L (wrS s)) sw P D S kk nx ring bu im kept tb tr tc ts) := by
  refine C.of (by decide +kernel) (by simp [Value.category]) (Nat.le_of_ble_eq_true rfl) ?_
  change J g mX2_open 3 0 0 _ (W1 scr tl lt lc (rdOf L s) sw P D S kk nx ring bu im kept tb tr tc ts) 0 [some (.ref 4), some (.int 0)] []
  refine j_iload_n (pc := 0) dX2_open_0 rfl ?_
  refine j_if_eq (pc := 1) (tgt := 11) dX2_open_1 rfl (fun _ => ?_) (fun zc1 => absurd (rfl : (0 : Int32) = 0) zc1)
  refine j_aload_n (pc := 11) dX2_open_11 rfl ?_
  refine j_iconst (pc := 12) dX2_open_12 kc_1 ?_
  refine j_putf (pc := 13) dX2_open_13 fl_X2_22 (jfit_z true) (by apply lkE; (with_reducible first | exact lkX_4e | exact lkX_4 | exact lkX_d | exact lkX_d1 | exact lkX_d3 | exact lkX_d5 | exact lkX_d7 | exact lkX_d9 | exact lkX_2); rfl) (upX_4 (w1 := true)) ?_
  refine j_return (pc := 16) dX2_open_16 rfl ?_
  exact ⟨rfl, rfl⟩

set_option maxRecDepth 20000 in
set_option maxHeartbeats 200000 in
theorem x_number {L : Nat} (hL : L ≤ 150) {s : PSt} (hb : s.2.1 ≤ L) {lo hi : Int32} : CD g 3 mX2_number [.ref 4, .int lo, .int hi] (W1 scr tl lt lc (rdOf L s) sw P D S kk nx ring bu im kept tb tr tc ts) (some (.int (nuV lo hi s))) (W1 scr tl lt lc (rdOf L (nuR lt L lo hi s)) sw P D S kk nx ring bu im kept tb tr tc ts) := by
  obtain ⟨sa, bh, tk, vl, w1, w2, w3⟩ := s
  refine C.of (by decide +kernel) (by simp [Value.category]) (Nat.le_of_ble_eq_true rfl) ?_
  change J g mX2_number 3 0 0 _ (W1 scr tl lt lc (nI L, nI sa, nI bh, tk, vl, w1, w2, w3) sw P D S kk nx ring bu im kept tb tr tc ts) 0 [some (.ref 4), some (.int lo), some (.int hi), none] []
  refine j_aload_n (pc := 0) dX2_number_0 rfl ?_
  refine j_getf (pc := 1) dX2_number_1 fl_X2_95 (by apply lkE; (with_reducible first | exact lkX_4e | exact lkX_4 | exact lkX_d | exact lkX_d1 | exact lkX_d3 | exact lkX_d5 | exact lkX_d7 | exact lkX_d9 | exact lkX_2); rfl) rfl ?_
  refine j_istore_n (pc := 4) dX2_number_4 rfl (Nat.le_of_ble_eq_true rfl) rfl ?_
  refine j_aload_n (pc := 5) dX2_number_5 rfl ?_
  refine j_getf (pc := 6) dX2_number_6 fl_X2_22 (by apply lkE; (with_reducible first | exact lkX_4e | exact lkX_4 | exact lkX_d | exact lkX_d1 | exact lkX_d3 | exact lkX_d5 | exact lkX_d7 | exact lkX_d9 | exact lkX_2); rfl) rfl ?_
  refine j_bne (pc := 9) (tgt := 29) dX2_number_9 rfl (fun zc9 => ?_) (fun zc9 => ?_)
  · refine j_aload_n (pc := 29) dX2_number_29 rfl ?_
    refine j_iconst (pc := 30) dX2_number_30 kc_1 ?_
    refine j_putf (pc := 31) dX2_number_31 fl_X2_22 (jfit_z true) (by apply lkE; (with_reducible first | exact lkX_4e | exact lkX_4 | exact lkX_d | exact lkX_d1 | exact lkX_d3 | exact lkX_d5 | exact lkX_d7 | exact lkX_d9 | exact lkX_2); rfl) (upX_4 (w1 := true)) ?_
    refine j_iload_n (pc := 34) dX2_number_34 rfl ?_
    refine j_ireturn (pc := 35) dX2_number_35 rfl ?_
    have hz : okN lo hi (sa, bh, tk, vl, w1, w2, w3) = false := by
      first
        | (have zc9 : w1 = _ := zc9
           simp [okN, *]; done)
        | simp [okN, *]
    refine ⟨?_, ?_⟩
    · rw [nuV, hz]; rfl
    · rw [nuR, hz]; rfl
  · refine j_aload_n (pc := 12) dX2_number_12 rfl ?_
    refine j_getf (pc := 13) dX2_number_13 fl_X2_40 (by apply lkE; (with_reducible first | exact lkX_4e | exact lkX_4 | exact lkX_d | exact lkX_d1 | exact lkX_d3 | exact lkX_d5 | exact lkX_d7 | exact lkX_d9 | exact lkX_2); rfl) rfl ?_
    refine j_iconst (pc := 16) dX2_number_16 kc_1 ?_
    refine j_icmp_ne (pc := 17) (tgt := 29) dX2_number_17 rfl (fun zc17 => ?_) (fun zc17 => ?_)
    · refine j_aload_n (pc := 29) dX2_number_29 rfl ?_
      refine j_iconst (pc := 30) dX2_number_30 kc_1 ?_
      refine j_putf (pc := 31) dX2_number_31 fl_X2_22 (jfit_z true) (by apply lkE; (with_reducible first | exact lkX_4e | exact lkX_4 | exact lkX_d | exact lkX_d1 | exact lkX_d3 | exact lkX_d5 | exact lkX_d7 | exact lkX_d9 | exact lkX_2); rfl) (upX_4 (w1 := true)) ?_
      refine j_iload_n (pc := 34) dX2_number_34 rfl ?_
      refine j_ireturn (pc := 35) dX2_number_35 rfl ?_
      have hz : okN lo hi (sa, bh, tk, vl, w1, w2, w3) = false := by
        first
          | (have zc9 : w1 = _ := zc9
             simp [okN, *]; done)
          | simp [okN, *]
      refine ⟨?_, ?_⟩
      · rw [nuV, hz]; rfl
      · rw [nuR, hz]; rfl
    · refine j_iload_n (pc := 20) dX2_number_20 rfl ?_
      refine j_iload_n (pc := 21) dX2_number_21 rfl ?_
      refine j_iload_n (pc := 22) dX2_number_22 rfl ?_
      refine j_ns3 (pc := 23) dX2_number_23 mc_X6_isWithin nk_X2_122 sm_X6_isWithin (by omega) (c_isWithin) (Nat.le_of_ble_eq_true rfl) ?_
      refine j_bne (pc := 26) (tgt := 36) dX2_number_26 rfl (fun zc26 => ?_) (fun zc26 => ?_)
      · refine j_aload_n (pc := 36) dX2_number_36 rfl ?_
        refine j_v0n (pc := 37) (ci := 2) dX2_number_37 mc_X2_step ml_X2_37 im_X2_step se_X2_step rfl rfl (by apply lkE; (with_reducible first | exact lkX_4e | exact lkX_4 | exact lkX_d | exact lkX_d1 | exact lkX_d3 | exact lkX_d5 | exact lkX_d7 | exact lkX_d9 | exact lkX_2); rfl) (by omega) (x_step hL hb) (Nat.le_of_ble_eq_true rfl) ?_
        refine j_iload_n (pc := 40) dX2_number_40 rfl ?_
        refine j_ireturn (pc := 41) dX2_number_41 rfl ?_
        have hz : okN lo hi (sa, bh, tk, vl, w1, w2, w3) = true := by
          first
            | (have zc9 : w1 = _ := zc9
               simp [okN, *]; done)
            | simp [okN, *]
        refine ⟨?_, ?_⟩
        · rw [nuV, hz]; rfl
        · rw [nuR, hz]; rfl
      · refine j_aload_n (pc := 29) dX2_number_29 rfl ?_
        refine j_iconst (pc := 30) dX2_number_30 kc_1 ?_
        refine j_putf (pc := 31) dX2_number_31 fl_X2_22 (jfit_z true) (by apply lkE; (with_reducible first | exact lkX_4e | exact lkX_4 | exact lkX_d | exact lkX_d1 | exact lkX_d3 | exact lkX_d5 | exact lkX_d7 | exact lkX_d9 | exact lkX_2); rfl) (upX_4 (w1 := true)) ?_
        refine j_iload_n (pc := 34) dX2_number_34 rfl ?_
        refine j_ireturn (pc := 35) dX2_number_35 rfl ?_
        have hz : okN lo hi (sa, bh, tk, vl, w1, w2, w3) = false := by
          first
            | (have zc9 : w1 = _ := zc9
               simp [okN, *]; done)
            | simp [okN, *]
        refine ⟨?_, ?_⟩
        · rw [nuV, hz]; rfl
        · rw [nuR, hz]; rfl

set_option maxRecDepth 20000 in
set_option maxHeartbeats 200000 in
theorem x_close {L : Nat} (hL : L ≤ 150) {s : PSt} (hb : s.2.1 ≤ L)  : CD g 3 mX2_close [.ref 4, .ref (pd sw)] (W1 scr tl lt lc (rdOf L s) sw P D S kk nx ring bu im kept tb tr tc ts) none (W1 scr tl lt lc (rdOf L (clR lt L s)) sw P (clD s D) S kk nx ring bu im kept tb tr tc ts) := by
  obtain ⟨sa, bh, tk, vl, w1, w2, w3⟩ := s
  refine C.of (by decide +kernel) (by simp [Value.category]) (Nat.le_of_ble_eq_true rfl) ?_
  change J g mX2_close 3 0 0 _ (W1 scr tl lt lc (nI L, nI sa, nI bh, tk, vl, w1, w2, w3) sw P D S kk nx ring bu im kept tb tr tc ts) 0 [some (.ref 4), some (.ref (pd sw))] []
  refine j_aload_n (pc := 0) dX2_close_0 rfl ?_
  refine j_getf (pc := 1) dX2_close_1 fl_X2_22 (by apply lkE; (with_reducible first | exact lkX_4e | exact lkX_4 | exact lkX_d | exact lkX_d1 | exact lkX_d3 | exact lkX_d5 | exact lkX_d7 | exact lkX_d9 | exact lkX_2); rfl) rfl ?_
  refine j_bne (pc := 4) (tgt := 33) dX2_close_4 rfl (fun zc4 => ?_) (fun zc4 => ?_)
  · refine j_aload_n (pc := 33) dX2_close_33 rfl ?_
    refine j_iconst (pc := 34) dX2_close_34 kc_1 ?_
    refine j_putf (pc := 35) dX2_close_35 fl_X2_22 (jfit_z true) (by apply lkE; (with_reducible first | exact lkX_4e | exact lkX_4 | exact lkX_d | exact lkX_d1 | exact lkX_d3 | exact lkX_d5 | exact lkX_d7 | exact lkX_d9 | exact lkX_2); rfl) (upX_4 (w1 := true)) ?_
    refine j_return (pc := 38) dX2_close_38 rfl ?_
    have hz : okC (sa, bh, tk, vl, w1, w2, w3) = false := by
      first
        | (have zc4 : w1 = _ := zc4
           simp [okC, *]; done)
        | simp [okC, *]
    refine ⟨rfl, ?_⟩
    rw [clR, clD, hz]; rfl
  · refine j_aload_n (pc := 7) dX2_close_7 rfl ?_
    refine j_getf (pc := 8) dX2_close_8 fl_X2_40 (by apply lkE; (with_reducible first | exact lkX_4e | exact lkX_4 | exact lkX_d | exact lkX_d1 | exact lkX_d3 | exact lkX_d5 | exact lkX_d7 | exact lkX_d9 | exact lkX_2); rfl) rfl ?_
    refine j_bipush (pc := 11) dX2_close_11 kb_59 ?_
    refine j_icmp_ne (pc := 13) (tgt := 33) dX2_close_13 rfl (fun zc13 => ?_) (fun zc13 => ?_)
    · refine j_aload_n (pc := 33) dX2_close_33 rfl ?_
      refine j_iconst (pc := 34) dX2_close_34 kc_1 ?_
      refine j_putf (pc := 35) dX2_close_35 fl_X2_22 (jfit_z true) (by apply lkE; (with_reducible first | exact lkX_4e | exact lkX_4 | exact lkX_d | exact lkX_d1 | exact lkX_d3 | exact lkX_d5 | exact lkX_d7 | exact lkX_d9 | exact lkX_2); rfl) (upX_4 (w1 := true)) ?_
      refine j_return (pc := 38) dX2_close_38 rfl ?_
      have hz : okC (sa, bh, tk, vl, w1, w2, w3) = false := by
        first
          | (have zc4 : w1 = _ := zc4
             simp [okC, *]; done)
          | simp [okC, *]
      refine ⟨rfl, ?_⟩
      rw [clR, clD, hz]; rfl
    · refine j_aload_n (pc := 16) dX2_close_16 rfl ?_
      refine j_dup (pc := 17) dX2_close_17 rfl ?_
      refine j_getf (pc := 18) dX2_close_18 fl_X2_126 (by apply lkE; (with_reducible first | exact lkX_4e | exact lkX_4 | exact lkX_d | exact lkX_d1 | exact lkX_d3 | exact lkX_d5 | exact lkX_d7 | exact lkX_d9 | exact lkX_2); rfl) rfl ?_
      refine j_iconst (pc := 21) dX2_close_21 kc_1 ?_
      refine j_iadd (pc := 22) dX2_close_22 ?_
      refine j_putf (pc := 23) dX2_close_23 fl_X2_126 (jfit_i _) (by apply lkE; (with_reducible first | exact lkX_4e | exact lkX_4 | exact lkX_d | exact lkX_d1 | exact lkX_d3 | exact lkX_d5 | exact lkX_d7 | exact lkX_d9 | exact lkX_2); rfl) upX_d ?_
      refine j_aload_n (pc := 26) dX2_close_26 rfl ?_
      refine j_v0n (pc := 27) (ci := 2) dX2_close_27 mc_X2_step ml_X2_37 im_X2_step se_X2_step rfl rfl (by apply lkE; (with_reducible first | exact lkX_4e | exact lkX_4 | exact lkX_d | exact lkX_d1 | exact lkX_d3 | exact lkX_d5 | exact lkX_d7 | exact lkX_d9 | exact lkX_2); rfl) (by omega) (x_step hL hb) (Nat.le_of_ble_eq_true rfl) ?_
      refine j_goto (pc := 30) (tgt := 38) dX2_close_30 rfl ?_
      refine j_return (pc := 38) dX2_close_38 rfl ?_
      have hz : okC (sa, bh, tk, vl, w1, w2, w3) = true := by
        first
          | (have zc4 : w1 = _ := zc4
             simp [okC, *]; done)
          | simp [okC, *]
      refine ⟨rfl, ?_⟩
      rw [clR, clD, hz]; rfl

set_option maxRecDepth 20000 in
set_option maxHeartbeats 200000 in
theorem x_addDeed {x : Int32} : CD g 1 mX1_addDeed [.ref (pd sw), .int x] (W1 scr tl lt lc rd sw P D S kk nx ring bu im kept tb tr tc ts) none (W1 scr tl lt lc rd sw P (adDe D x) S kk nx ring bu im kept tb tr tc ts) := by
  refine C.of (by decide +kernel) (by simp [Value.category]) (Nat.le_of_ble_eq_true rfl) ?_
  change J g mX1_addDeed 1 0 0 _ (W1 scr tl lt lc rd sw P D S kk nx ring bu im kept tb tr tc ts) 0 [some (.ref (pd sw)), some (.int x)] []
  refine j_aload_n (pc := 0) dX1_addDeed_0 rfl ?_
  refine j_getf (pc := 1) dX1_addDeed_1 fl_X1_14 (by apply lkE; (with_reducible first | exact lkX_4e | exact lkX_4 | exact lkX_d | exact lkX_d1 | exact lkX_d3 | exact lkX_d5 | exact lkX_d7 | exact lkX_d9 | exact lkX_2); rfl) rfl ?_
  refine j_aload_n (pc := 4) dX1_addDeed_4 rfl ?_
  refine j_getf (pc := 5) dX1_addDeed_5 fl_X1_39 (by apply lkE; (with_reducible first | exact lkX_4e | exact lkX_4 | exact lkX_d | exact lkX_d1 | exact lkX_d3 | exact lkX_d5 | exact lkX_d7 | exact lkX_d9 | exact lkX_2); rfl) rfl ?_
  refine j_iload_n (pc := 8) dX1_addDeed_8 rfl ?_
  refine j_v2n (pc := 9) (ci := 3) dX1_addDeed_9 mc_X3_put ml_X1_54 im_X3_put se_X3_put rfl rfl (by apply lkE; (with_reducible first | exact lkX_4e | exact lkX_4 | exact lkX_d | exact lkX_d1 | exact lkX_d3 | exact lkX_d5 | exact lkX_d7 | exact lkX_d9 | exact lkX_2); rfl) (by omega) (CD.heap upX_d2 (c_put (n := 6) (by decide) lkX_d1 lkX_d2)) (Nat.le_of_ble_eq_true rfl) ?_
  refine j_aload_n (pc := 12) dX1_addDeed_12 rfl ?_
  refine j_dup (pc := 13) dX1_addDeed_13 rfl ?_
  refine j_getf (pc := 14) dX1_addDeed_14 fl_X1_39 (by apply lkE; (with_reducible first | exact lkX_4e | exact lkX_4 | exact lkX_d | exact lkX_d1 | exact lkX_d3 | exact lkX_d5 | exact lkX_d7 | exact lkX_d9 | exact lkX_2); rfl) rfl ?_
  refine j_iconst (pc := 17) dX1_addDeed_17 kc_1 ?_
  refine j_iadd (pc := 18) dX1_addDeed_18 ?_
  refine j_putf (pc := 19) dX1_addDeed_19 fl_X1_39 (jfit_i _) (by apply lkE; (with_reducible first | exact lkX_4e | exact lkX_4 | exact lkX_d | exact lkX_d1 | exact lkX_d3 | exact lkX_d5 | exact lkX_d7 | exact lkX_d9 | exact lkX_2); rfl) upX_d ?_
  refine j_return (pc := 22) dX1_addDeed_22 rfl ?_
  exact ⟨rfl, rfl⟩

set_option maxRecDepth 20000 in
set_option maxHeartbeats 200000 in
theorem x_addDead {x y z : Int32} : CD g 1 mX1_addDead [.ref (pd sw), .int x, .int y, .int z] (W1 scr tl lt lc rd sw P D S kk nx ring bu im kept tb tr tc ts) none (W1 scr tl lt lc rd sw P (adDd D x y z) S kk nx ring bu im kept tb tr tc ts) := by
  refine C.of (by decide +kernel) (by simp [Value.category]) (Nat.le_of_ble_eq_true rfl) ?_
  change J g mX1_addDead 1 0 0 _ (W1 scr tl lt lc rd sw P D S kk nx ring bu im kept tb tr tc ts) 0 [some (.ref (pd sw)), some (.int x), some (.int y), some (.int z)] []
  refine j_aload_n (pc := 0) dX1_addDead_0 rfl ?_
  refine j_getf (pc := 1) dX1_addDead_1 fl_X1_20 (by apply lkE; (with_reducible first | exact lkX_4e | exact lkX_4 | exact lkX_d | exact lkX_d1 | exact lkX_d3 | exact lkX_d5 | exact lkX_d7 | exact lkX_d9 | exact lkX_2); rfl) rfl ?_
  refine j_aload_n (pc := 4) dX1_addDead_4 rfl ?_
  refine j_getf (pc := 5) dX1_addDead_5 fl_X1_42 (by apply lkE; (with_reducible first | exact lkX_4e | exact lkX_4 | exact lkX_d | exact lkX_d1 | exact lkX_d3 | exact lkX_d5 | exact lkX_d7 | exact lkX_d9 | exact lkX_2); rfl) rfl ?_
  refine j_iload_n (pc := 8) dX1_addDead_8 rfl ?_
  refine j_v2n (pc := 9) (ci := 3) dX1_addDead_9 mc_X3_put ml_X1_54 im_X3_put se_X3_put rfl rfl (by apply lkE; (with_reducible first | exact lkX_4e | exact lkX_4 | exact lkX_d | exact lkX_d1 | exact lkX_d3 | exact lkX_d5 | exact lkX_d7 | exact lkX_d9 | exact lkX_2); rfl) (by omega) (CD.heap upX_d4 (c_put (n := 6) (by decide) lkX_d3 lkX_d4)) (Nat.le_of_ble_eq_true rfl) ?_
  refine j_aload_n (pc := 12) dX1_addDead_12 rfl ?_
  refine j_getf (pc := 13) dX1_addDead_13 fl_X1_23 (by apply lkE; (with_reducible first | exact lkX_4e | exact lkX_4 | exact lkX_d | exact lkX_d1 | exact lkX_d3 | exact lkX_d5 | exact lkX_d7 | exact lkX_d9 | exact lkX_2); rfl) rfl ?_
  refine j_aload_n (pc := 16) dX1_addDead_16 rfl ?_
  refine j_getf (pc := 17) dX1_addDead_17 fl_X1_42 (by apply lkE; (with_reducible first | exact lkX_4e | exact lkX_4 | exact lkX_d | exact lkX_d1 | exact lkX_d3 | exact lkX_d5 | exact lkX_d7 | exact lkX_d9 | exact lkX_2); rfl) rfl ?_
  refine j_iload_n (pc := 20) dX1_addDead_20 rfl ?_
  refine j_v2n (pc := 21) (ci := 3) dX1_addDead_21 mc_X3_put ml_X1_54 im_X3_put se_X3_put rfl rfl (by apply lkE; (with_reducible first | exact lkX_4e | exact lkX_4 | exact lkX_d | exact lkX_d1 | exact lkX_d3 | exact lkX_d5 | exact lkX_d7 | exact lkX_d9 | exact lkX_2); rfl) (by omega) (CD.heap upX_d6 (c_put (n := 6) (by decide) lkX_d5 lkX_d6)) (Nat.le_of_ble_eq_true rfl) ?_
  refine j_aload_n (pc := 24) dX1_addDead_24 rfl ?_
  refine j_getf (pc := 25) dX1_addDead_25 fl_X1_26 (by apply lkE; (with_reducible first | exact lkX_4e | exact lkX_4 | exact lkX_d | exact lkX_d1 | exact lkX_d3 | exact lkX_d5 | exact lkX_d7 | exact lkX_d9 | exact lkX_2); rfl) rfl ?_
  refine j_aload_n (pc := 28) dX1_addDead_28 rfl ?_
  refine j_getf (pc := 29) dX1_addDead_29 fl_X1_42 (by apply lkE; (with_reducible first | exact lkX_4e | exact lkX_4 | exact lkX_d | exact lkX_d1 | exact lkX_d3 | exact lkX_d5 | exact lkX_d7 | exact lkX_d9 | exact lkX_2); rfl) rfl ?_
  refine j_iload_n (pc := 32) dX1_addDead_32 rfl ?_
  refine j_v2n (pc := 33) (ci := 3) dX1_addDead_33 mc_X3_put ml_X1_54 im_X3_put se_X3_put rfl rfl (by apply lkE; (with_reducible first | exact lkX_4e | exact lkX_4 | exact lkX_d | exact lkX_d1 | exact lkX_d3 | exact lkX_d5 | exact lkX_d7 | exact lkX_d9 | exact lkX_2); rfl) (by omega) (CD.heap upX_d8 (c_put (n := 6) (by decide) lkX_d7 lkX_d8)) (Nat.le_of_ble_eq_true rfl) ?_
  refine j_aload_n (pc := 36) dX1_addDead_36 rfl ?_
  refine j_dup (pc := 37) dX1_addDead_37 rfl ?_
  refine j_getf (pc := 38) dX1_addDead_38 fl_X1_42 (by apply lkE; (with_reducible first | exact lkX_4e | exact lkX_4 | exact lkX_d | exact lkX_d1 | exact lkX_d3 | exact lkX_d5 | exact lkX_d7 | exact lkX_d9 | exact lkX_2); rfl) rfl ?_
  refine j_iconst (pc := 41) dX1_addDead_41 kc_1 ?_
  refine j_iadd (pc := 42) dX1_addDead_42 ?_
  refine j_putf (pc := 43) dX1_addDead_43 fl_X1_42 (jfit_i _) (by apply lkE; (with_reducible first | exact lkX_4e | exact lkX_4 | exact lkX_d | exact lkX_d1 | exact lkX_d3 | exact lkX_d5 | exact lkX_d7 | exact lkX_d9 | exact lkX_2); rfl) upX_d ?_
  refine j_return (pc := 46) dX1_addDead_46 rfl ?_
  exact ⟨rfl, rfl⟩

set_option maxRecDepth 20000 in
set_option maxHeartbeats 200000 in
theorem x_addBearer {x : Int32} : CD g 1 mX1_addBearer [.ref (pd sw), .int x] (W1 scr tl lt lc rd sw P D S kk nx ring bu im kept tb tr tc ts) none (W1 scr tl lt lc rd sw P (adBe D x) S kk nx ring bu im kept tb tr tc ts) := by
  refine C.of (by decide +kernel) (by simp [Value.category]) (Nat.le_of_ble_eq_true rfl) ?_
  change J g mX1_addBearer 1 0 0 _ (W1 scr tl lt lc rd sw P D S kk nx ring bu im kept tb tr tc ts) 0 [some (.ref (pd sw)), some (.int x)] []
  refine j_aload_n (pc := 0) dX1_addBearer_0 rfl ?_
  refine j_getf (pc := 1) dX1_addBearer_1 fl_X1_29 (by apply lkE; (with_reducible first | exact lkX_4e | exact lkX_4 | exact lkX_d | exact lkX_d1 | exact lkX_d3 | exact lkX_d5 | exact lkX_d7 | exact lkX_d9 | exact lkX_2); rfl) rfl ?_
  refine j_aload_n (pc := 4) dX1_addBearer_4 rfl ?_
  refine j_getf (pc := 5) dX1_addBearer_5 fl_X1_45 (by apply lkE; (with_reducible first | exact lkX_4e | exact lkX_4 | exact lkX_d | exact lkX_d1 | exact lkX_d3 | exact lkX_d5 | exact lkX_d7 | exact lkX_d9 | exact lkX_2); rfl) rfl ?_
  refine j_iload_n (pc := 8) dX1_addBearer_8 rfl ?_
  refine j_v2n (pc := 9) (ci := 3) dX1_addBearer_9 mc_X3_put ml_X1_54 im_X3_put se_X3_put rfl rfl (by apply lkE; (with_reducible first | exact lkX_4e | exact lkX_4 | exact lkX_d | exact lkX_d1 | exact lkX_d3 | exact lkX_d5 | exact lkX_d7 | exact lkX_d9 | exact lkX_2); rfl) (by omega) (CD.heap upX_d10 (c_put (n := 6) (by decide) lkX_d9 lkX_d10)) (Nat.le_of_ble_eq_true rfl) ?_
  refine j_aload_n (pc := 12) dX1_addBearer_12 rfl ?_
  refine j_dup (pc := 13) dX1_addBearer_13 rfl ?_
  refine j_getf (pc := 14) dX1_addBearer_14 fl_X1_45 (by apply lkE; (with_reducible first | exact lkX_4e | exact lkX_4 | exact lkX_d | exact lkX_d1 | exact lkX_d3 | exact lkX_d5 | exact lkX_d7 | exact lkX_d9 | exact lkX_2); rfl) rfl ?_
  refine j_iconst (pc := 17) dX1_addBearer_17 kc_1 ?_
  refine j_iadd (pc := 18) dX1_addBearer_18 ?_
  refine j_putf (pc := 19) dX1_addBearer_19 fl_X1_45 (jfit_i _) (by apply lkE; (with_reducible first | exact lkX_4e | exact lkX_4 | exact lkX_d | exact lkX_d1 | exact lkX_d3 | exact lkX_d5 | exact lkX_d7 | exact lkX_d9 | exact lkX_2); rfl) upX_d ?_
  refine j_return (pc := 22) dX1_addBearer_22 rfl ?_
  exact ⟨rfl, rfl⟩

set_option maxRecDepth 20000 in
set_option maxHeartbeats 200000 in
theorem x_mayBeDone {L : Nat} {s : PSt} {dn : Int32} : CD g 1 mX2_mayBeDone [.ref 4, .ref (pd sw), .int dn] (W1 scr tl lt lc (rdOf L s) sw P D S kk nx ring bu im kept tb tr tc ts) (some (.int (b2i (mbR D.2.1 dn s)))) (W1 scr tl lt lc (rdOf L s) sw P D S kk nx ring bu im kept tb tr tc ts) := by
  obtain ⟨sa, bh, tk, vl, w1, w2, w3⟩ := s
  refine C.of (by decide +kernel) (by simp [Value.category]) (Nat.le_of_ble_eq_true rfl) ?_
  change J g mX2_mayBeDone 1 0 0 _ (W1 scr tl lt lc (nI L, nI sa, nI bh, tk, vl, w1, w2, w3) sw P D S kk nx ring bu im kept tb tr tc ts) 0 [some (.ref 4), some (.ref (pd sw)), some (.int dn)] []
  refine j_aload_n (pc := 0) dX2_mayBeDone_0 rfl ?_
  refine j_getf (pc := 1) dX2_mayBeDone_1 fl_X2_40 (by apply lkE; (with_reducible first | exact lkX_4e | exact lkX_4 | exact lkX_d | exact lkX_d1 | exact lkX_d3 | exact lkX_d5 | exact lkX_d7 | exact lkX_d9 | exact lkX_2); rfl) rfl ?_
  refine j_iconst (pc := 4) dX2_mayBeDone_4 kc_1 ?_
  refine j_icmp_ne (pc := 5) (tgt := 34) dX2_mayBeDone_5 rfl (fun zc5 => ?_) (fun zc5 => ?_)
  · refine j_iconst (pc := 34) dX2_mayBeDone_34 kc_0 ?_
    refine j_zret (pc := 35) (b := mbR D.2.1 dn (sa, bh, tk, vl, w1, w2, w3)) dX2_mayBeDone_35 rfl (by
  first
    | (have zc5 : ¬ tk = 1 := zc5
       simp [mbR, b2i, *]; done)
    | (have zc5 : tk = 1 := zc5
       have zc16 : jlt vl D.2.1 = _ := zc16
       have zc27 : tbit dn vl = _ := zc27
       simp [mbR, b2i, *]; done)
    | (have zc5 : tk = 1 := zc5
       have zc16 : jlt vl D.2.1 = _ := zc16
       simp [mbR, b2i, *])) ?_
    exact ⟨rfl, rfl⟩
  · refine j_aload_n (pc := 8) dX2_mayBeDone_8 rfl ?_
    refine j_aload_n (pc := 9) dX2_mayBeDone_9 rfl ?_
    refine j_getf (pc := 10) dX2_mayBeDone_10 fl_X2_95 (by apply lkE; (with_reducible first | exact lkX_4e | exact lkX_4 | exact lkX_d | exact lkX_d1 | exact lkX_d3 | exact lkX_d5 | exact lkX_d7 | exact lkX_d9 | exact lkX_2); rfl) rfl ?_
    refine j_v1 (pc := 13) (ci := 1) dX2_mayBeDone_13 mc_X1_hasDeed ml_X2_102 im_X1_hasDeed se_X1_hasDeed rfl rfl (by apply lkE; (with_reducible first | exact lkX_4e | exact lkX_4 | exact lkX_d | exact lkX_d1 | exact lkX_d3 | exact lkX_d5 | exact lkX_d7 | exact lkX_d9 | exact lkX_2); rfl) (by omega) (c_hasDeed lkX_d) (Nat.le_of_ble_eq_true rfl) ?_
    refine j_beq (pc := 16) (tgt := 34) dX2_mayBeDone_16 rfl (fun zc16 => ?_) (fun zc16 => ?_)
    · refine j_iconst (pc := 34) dX2_mayBeDone_34 kc_0 ?_
      refine j_zret (pc := 35) (b := mbR D.2.1 dn (sa, bh, tk, vl, w1, w2, w3)) dX2_mayBeDone_35 rfl (by
  first
    | (have zc5 : ¬ tk = 1 := zc5
       simp [mbR, b2i, *]; done)
    | (have zc5 : tk = 1 := zc5
       have zc16 : jlt vl D.2.1 = _ := zc16
       have zc27 : tbit dn vl = _ := zc27
       simp [mbR, b2i, *]; done)
    | (have zc5 : tk = 1 := zc5
       have zc16 : jlt vl D.2.1 = _ := zc16
       simp [mbR, b2i, *])) ?_
      exact ⟨rfl, rfl⟩
    · refine j_iload_n (pc := 19) dX2_mayBeDone_19 rfl ?_
      refine j_aload_n (pc := 20) dX2_mayBeDone_20 rfl ?_
      refine j_getf (pc := 21) dX2_mayBeDone_21 fl_X2_95 (by apply lkE; (with_reducible first | exact lkX_4e | exact lkX_4 | exact lkX_d | exact lkX_d1 | exact lkX_d3 | exact lkX_d5 | exact lkX_d7 | exact lkX_d9 | exact lkX_2); rfl) rfl ?_
      refine j_ns2 (pc := 24) dX2_mayBeDone_24 mc_X6_isIn nk_X2_106 sm_X6_isIn (by omega) (c_isIn) (Nat.le_of_ble_eq_true rfl) ?_
      refine j_bne (pc := 27) (tgt := 34) dX2_mayBeDone_27 rfl (fun zc27 => ?_) (fun zc27 => ?_)
      · refine j_iconst (pc := 34) dX2_mayBeDone_34 kc_0 ?_
        refine j_zret (pc := 35) (b := mbR D.2.1 dn (sa, bh, tk, vl, w1, w2, w3)) dX2_mayBeDone_35 rfl (by
  first
    | (have zc5 : ¬ tk = 1 := zc5
       simp [mbR, b2i, *]; done)
    | (have zc5 : tk = 1 := zc5
       have zc16 : jlt vl D.2.1 = _ := zc16
       have zc27 : tbit dn vl = _ := zc27
       simp [mbR, b2i, *]; done)
    | (have zc5 : tk = 1 := zc5
       have zc16 : jlt vl D.2.1 = _ := zc16
       simp [mbR, b2i, *])) ?_
        exact ⟨rfl, rfl⟩
      · refine j_iconst (pc := 30) dX2_mayBeDone_30 kc_1 ?_
        refine j_goto (pc := 31) (tgt := 35) dX2_mayBeDone_31 rfl ?_
        refine j_zret (pc := 35) (b := mbR D.2.1 dn (sa, bh, tk, vl, w1, w2, w3)) dX2_mayBeDone_35 rfl (by
  first
    | (have zc5 : ¬ tk = 1 := zc5
       simp [mbR, b2i, *]; done)
    | (have zc5 : tk = 1 := zc5
       have zc16 : jlt vl D.2.1 = _ := zc16
       have zc27 : tbit dn vl = _ := zc27
       simp [mbR, b2i, *]; done)
    | (have zc5 : tk = 1 := zc5
       have zc16 : jlt vl D.2.1 = _ := zc16
       simp [mbR, b2i, *])) ?_
        exact ⟨rfl, rfl⟩

set_option maxRecDepth 20000 in
set_option maxHeartbeats 200000 in
theorem xl_readDone {L : Nat} (hL : L ≤ 150) : ∀ (m i : Nat) (dn : Int32) (s : PSt), i + m = 6 → s.2.1 ≤ L → s.2.2.2.2.1 = false → Q (some (.int (rdnR lt L D.2.1 m dn s).1)) (W1 scr tl lt lc (rdOf L (rdnR lt L D.2.1 m dn s).2) sw P D S kk nx ring bu im kept tb tr tc ts) → J g mX2_readDone 3 0 0 Q (W1 scr tl lt lc (rdOf L s) sw P D S kk nx ring bu im kept tb tr tc ts) 4 [some (.ref 4), some (.ref (pd sw)), some (.int dn), some (.int (nI i))] [] := by
  intro m
  induction m with
  | zero =>
    intro i dn s hk hb hw hq
    refine j_iload_n (pc := 4) dX2_readDone_4 rfl ?_
    refine j_bipush (pc := 5) dX2_readDone_5 kb_6 ?_
    refine j_icmp_ge (pc := 7) (tgt := 46) dX2_readDone_7 rfl (fun _ => ?_) (fun zc7 => absurd (nI_le (a := 6) (b := i) (by omega) (by omega)) zc7)
    refine j_iload_n (pc := 46) dX2_readDone_46 rfl ?_
    refine j_ireturn (pc := 47) dX2_readDone_47 rfl ?_
    first
      | exact hq
      | (rw [show rdnR lt L D.2.1 (m + 1) dn s = (dn, s) by rw [rdnR, if_neg (by rw [zc23]; decide)]] at hq
         exact hq)
  | succ m ih =>
    intro i dn s hk hb hw hq
    refine j_iload_n (pc := 4) dX2_readDone_4 rfl ?_
    refine j_bipush (pc := 5) dX2_readDone_5 kb_6 ?_
    refine j_icmp_ge (pc := 7) (tgt := 46) dX2_readDone_7 rfl (fun zc7 => absurd zc7 (nI_ge (a := i) (b := 6) (by omega) (by omega))) (fun _ => ?_)
    refine j_aload_n (pc := 10) dX2_readDone_10 rfl ?_
    refine j_getf (pc := 11) dX2_readDone_11 fl_X2_22 (by apply lkE; (with_reducible first | exact lkX_4e | exact lkX_4 | exact lkX_d | exact lkX_d1 | exact lkX_d3 | exact lkX_d5 | exact lkX_d7 | exact lkX_d9 | exact lkX_2); rfl) rfl ?_
    refine j_bne (pc := 14) (tgt := 46) dX2_readDone_14 rfl (fun zc14 => by cases (hw).symm.trans zc14) (fun _ => ?_)
    refine j_aload_n (pc := 17) dX2_readDone_17 rfl ?_
    refine j_aload_n (pc := 18) dX2_readDone_18 rfl ?_
    refine j_iload_n (pc := 19) dX2_readDone_19 rfl ?_
    refine j_v2 (pc := 20) (ci := 2) dX2_readDone_20 mc_X2_mayBeDone ml_X2_91 im_X2_mayBeDone se_X2_mayBeDone rfl rfl (by apply lkE; (with_reducible first | exact lkX_4e | exact lkX_4 | exact lkX_d | exact lkX_d1 | exact lkX_d3 | exact lkX_d5 | exact lkX_d7 | exact lkX_d9 | exact lkX_2); rfl) (by omega) (x_mayBeDone) (Nat.le_of_ble_eq_true rfl) ?_
    refine j_beq (pc := 23) (tgt := 46) dX2_readDone_23 rfl (fun zc23 => ?_) (fun zc23 => ?_)
    · refine j_iload_n (pc := 46) dX2_readDone_46 rfl ?_
      refine j_ireturn (pc := 47) dX2_readDone_47 rfl ?_
      first
        | exact hq
        | (rw [show rdnR lt L D.2.1 (m + 1) dn s = (dn, s) by rw [rdnR, if_neg (by rw [zc23]; decide)]] at hq
           exact hq)
    · refine j_iload_n (pc := 26) dX2_readDone_26 rfl ?_
      refine j_aload_n (pc := 27) dX2_readDone_27 rfl ?_
      refine j_getf (pc := 28) dX2_readDone_28 fl_X2_95 (by apply lkE; (with_reducible first | exact lkX_4e | exact lkX_4 | exact lkX_d | exact lkX_d1 | exact lkX_d3 | exact lkX_d5 | exact lkX_d7 | exact lkX_d9 | exact lkX_2); rfl) rfl ?_
      refine j_ns1 (pc := 31) dX2_readDone_31 mc_X6_bit nk_X2_98 sm_X6_bit (by omega) (c_bit) (Nat.le_of_ble_eq_true rfl) ?_
      refine j_ior (pc := 34) dX2_readDone_34 ?_
      refine j_istore_n (pc := 35) dX2_readDone_35 rfl (Nat.le_of_ble_eq_true rfl) rfl ?_
      refine j_aload_n (pc := 36) dX2_readDone_36 rfl ?_
      refine j_v0n (pc := 37) (ci := 2) dX2_readDone_37 mc_X2_step ml_X2_37 im_X2_step se_X2_step rfl rfl (by apply lkE; (with_reducible first | exact lkX_4e | exact lkX_4 | exact lkX_d | exact lkX_d1 | exact lkX_d3 | exact lkX_d5 | exact lkX_d7 | exact lkX_d9 | exact lkX_2); rfl) (by omega) (x_step hL hb) (Nat.le_of_ble_eq_true rfl) ?_
      refine j_iinc (pc := 40) dX2_readDone_40 rfl rfl (Nat.le_of_ble_eq_true rfl) rfl ?_
      refine j_goto (pc := 43) (tgt := 4) dX2_readDone_43 rfl ?_
      rw [nI_s]
      refine ih (i + 1) _ _ (by omega) (tkS_le hb) hw ?_
      rw [show rdnR lt L D.2.1 (m + 1) dn s = rdnR lt L D.2.1 m (dn ||| bitI s.2.2.2.1) (tkS lt L s) by rw [rdnR, if_pos zc23]] at hq
      exact hq

set_option maxRecDepth 20000 in
set_option maxHeartbeats 200000 in
theorem x_readDone {L : Nat} (hL : L ≤ 150) {s : PSt} (hb : s.2.1 ≤ L)  : CD g 3 mX2_readDone [.ref 4, .ref (pd sw)] (W1 scr tl lt lc (rdOf L s) sw P D S kk nx ring bu im kept tb tr tc ts) (some (.int (rdn lt L D.2.1 s).1)) (W1 scr tl lt lc (rdOf L (rdn lt L D.2.1 s).2) sw P D S kk nx ring bu im kept tb tr tc ts) := by
  refine C.of (by decide +kernel) (by simp [Value.category]) (Nat.le_of_ble_eq_true rfl) ?_
  change J g mX2_readDone 3 0 0 _ (W1 scr tl lt lc (rdOf L s) sw P D S kk nx ring bu im kept tb tr tc ts) 0 [some (.ref 4), some (.ref (pd sw)), none, none] []
  refine j_iconst (pc := 0) dX2_readDone_0 kc_0 ?_
  refine j_istore_n (pc := 1) dX2_readDone_1 rfl (Nat.le_of_ble_eq_true rfl) rfl ?_
  refine j_iconst (pc := 2) dX2_readDone_2 kc_0 ?_
  refine j_istore_n (pc := 3) dX2_readDone_3 rfl (Nat.le_of_ble_eq_true rfl) rfl ?_
  cases hw : s.2.2.2.2.1
  · exact xl_readDone hL 6 0 0 s (by omega) hb hw ⟨by rw [rdn, hw]; rfl, by rw [rdn, hw]; rfl⟩
  · refine j_iload_n (pc := 4) dX2_readDone_4 rfl ?_
    refine j_bipush (pc := 5) dX2_readDone_5 kb_6 ?_
    refine j_icmp_ge (pc := 7) (tgt := 46) dX2_readDone_7 rfl (fun zc7 => absurd zc7 (show ¬ (6 : Int32) ≤ 0 by decide)) (fun _ => ?_)
    refine j_aload_n (pc := 10) dX2_readDone_10 rfl ?_
    refine j_getf (pc := 11) dX2_readDone_11 fl_X2_22 (by apply lkE; (with_reducible first | exact lkX_4e | exact lkX_4 | exact lkX_d | exact lkX_d1 | exact lkX_d3 | exact lkX_d5 | exact lkX_d7 | exact lkX_d9 | exact lkX_2); rfl) rfl ?_
    refine j_bne (pc := 14) (tgt := 46) dX2_readDone_14 rfl (fun _ => ?_) (fun zc14 => by cases (hw).symm.trans zc14)
    refine j_iload_n (pc := 46) dX2_readDone_46 rfl ?_
    refine j_ireturn (pc := 47) dX2_readDone_47 rfl ?_
    exact ⟨by rw [rdn, hw]; rfl, by rw [rdn, hw]; rfl⟩

def de1 (lt : Fn) (L : Nat) (s : PSt) (D : ParV) : PSt := opR lt L (decide (¬ 6 ≤ D.2.1)) s
def deR (lt : Fn) (L : Nat) (s : PSt) (D : ParV) : PSt × ParV := (clR lt L (nuR lt L 0 40 (de1 lt L s D)), if (clR lt L (nuR lt L 0 40 (de1 lt L s D))).2.2.2.2.1 then clD (nuR lt L 0 40 (de1 lt L s D)) D else adDe (clD (nuR lt L 0 40 (de1 lt L s D)) D) (nuV 0 40 (de1 lt L s D) - 20))
def be1 (lt : Fn) (L : Nat) (s : PSt) (D : ParV) : PSt := opR lt L (decide (¬ 6 ≤ D.2.2.2.1)) s
def beR (lt : Fn) (L : Nat) (s : PSt) (D : ParV) : PSt × ParV := (clR lt L (nuR lt L 1 60 (be1 lt L s D)), if (clR lt L (nuR lt L 1 60 (be1 lt L s D))).2.2.2.2.1 then clD (nuR lt L 1 60 (be1 lt L s D)) D else adBe (clD (nuR lt L 1 60 (be1 lt L s D)) D) (nuV 1 60 (be1 lt L s D)))
def ld1 (lt : Fn) (L : Nat) (s : PSt) (D : ParV) : PSt := opR lt L (decide (¬ 6 ≤ D.2.2.1)) s
def ld2 (lt : Fn) (L : Nat) (s : PSt) (D : ParV) : PSt := nuR lt L 1 40 (ld1 lt L s D)
def ld3 (lt : Fn) (L : Nat) (s : PSt) (D : ParV) : PSt := nuR lt L 0 9 (ld2 lt L s D)
def ld4 (lt : Fn) (L : Nat) (s : PSt) (D : ParV) : Int32 × PSt := rdn lt L D.2.1 (ld3 lt L s D)
def ldR (lt : Fn) (L : Nat) (s : PSt) (D : ParV) : PSt × ParV := (clR lt L (ld4 lt L s D).2, if (clR lt L (ld4 lt L s D).2).2.2.2.2.1 then clD (ld4 lt L s D).2 D else adDd (clD (ld4 lt L s D).2 D) (nuV 1 40 (ld1 lt L s D)) (nuV 0 9 (ld2 lt L s D)) (ld4 lt L s D).1)
def pi1 (lt : Fn) (L : Nat) (s : PSt) : PSt := opR lt L (!s.2.2.2.2.2.1) s
def w2S (s : PSt) : PSt := (s.1, s.2.1, s.2.2.1, s.2.2.2.1, s.2.2.2.2.1, true, s.2.2.2.2.2.2)
def w3S (s : PSt) : PSt := (s.1, s.2.1, s.2.2.1, s.2.2.2.1, s.2.2.2.2.1, s.2.2.2.2.2.1, true)
def piD (D : ParV) (x : Int32) : ParV := (D.1, D.2.1, D.2.2.1, D.2.2.2.1, x, D.2.2.2.2.2.1, D.2.2.2.2.2.2.1, D.2.2.2.2.2.2.2.1, D.2.2.2.2.2.2.2.2.1, D.2.2.2.2.2.2.2.2.2.1, D.2.2.2.2.2.2.2.2.2.2)
def ruD (D : ParV) (x : Int32) : ParV := (D.1, D.2.1, D.2.2.1, D.2.2.2.1, D.2.2.2.2.1, x, D.2.2.2.2.2.2.1, D.2.2.2.2.2.2.2.1, D.2.2.2.2.2.2.2.2.1, D.2.2.2.2.2.2.2.2.2.1, D.2.2.2.2.2.2.2.2.2.2)
def piR (lt : Fn) (L : Nat) (s : PSt) (D : ParV) : PSt × ParV := (w2S (clR lt L (nuR lt L 10 99 (pi1 lt L s))), clD (nuR lt L 10 99 (pi1 lt L s)) (piD D (nuV 10 99 (pi1 lt L s))))
def ru1 (lt : Fn) (L : Nat) (s : PSt) : PSt := opR lt L (!s.2.2.2.2.2.2) s
def ruR (lt : Fn) (L : Nat) (s : PSt) (D : ParV) : PSt × ParV := (w3S (clR lt L (nuR lt L 0 9 (ru1 lt L s))), clD (nuR lt L 0 9 (ru1 lt L s)) (ruD D (nuV 0 9 (ru1 lt L s))))
set_option maxRecDepth 20000 in
set_option maxHeartbeats 200000 in
theorem x_readDeed {L : Nat} (hL : L ≤ 150) {s : PSt} (hb : s.2.1 ≤ L)  : CD g 4 mX2_readDeed [.ref 4, .ref (pd sw)] (W1 scr tl lt lc (rdOf L s) sw P D S kk nx ring bu im kept tb tr tc ts) none (W1 scr tl lt lc (rdOf L (deR lt L s D).1) sw P ((deR lt L s D).2) S kk nx ring bu im kept tb tr tc ts) := by
  refine C.of (by decide +kernel) (by simp [Value.category]) (Nat.le_of_ble_eq_true rfl) ?_
  change J g mX2_readDeed 4 0 0 _ (W1 scr tl lt lc (rdOf L s) sw P D S kk nx ring bu im kept tb tr tc ts) 0 [some (.ref 4), some (.ref (pd sw)), none] []
  refine j_aload_n (pc := 0) dX2_readDeed_0 rfl ?_
  refine j_aload_n (pc := 1) dX2_readDeed_1 rfl ?_
  refine j_getf (pc := 2) dX2_readDeed_2 fl_X2_62 (by apply lkE; (with_reducible first | exact lkX_4e | exact lkX_4 | exact lkX_d | exact lkX_d1 | exact lkX_d3 | exact lkX_d5 | exact lkX_d7 | exact lkX_d9 | exact lkX_2); rfl) rfl ?_
  refine j_bipush (pc := 5) dX2_readDeed_5 kb_6 ?_
  refine j_icmp_ge (pc := 7) (tgt := 14) dX2_readDeed_7 rfl (fun zc7 => ?_) (fun zc7 => ?_)
  · refine j_iconst (pc := 14) dX2_readDeed_14 kc_0 ?_
    refine j_v1n (pc := 15) (ci := 2) dX2_readDeed_15 mc_X2_open ml_X2_65 im_X2_open se_X2_open rfl rfl (by apply lkE; (with_reducible first | exact lkX_4e | exact lkX_4 | exact lkX_d | exact lkX_d1 | exact lkX_d3 | exact lkX_d5 | exact lkX_d7 | exact lkX_d9 | exact lkX_2); rfl) (by omega) (x_open0 hL hb) (Nat.le_of_ble_eq_true rfl) ?_
    have e1 : de1 lt L s D = wrS s := by
      simp [de1, opR, zc7]
    rw [← e1]
    have hb1 : (de1 lt L s D).2.1 ≤ L := by unfold de1; exact opR_le hb
    refine j_aload_n (pc := 18) dX2_readDeed_18 rfl ?_
    refine j_iconst (pc := 19) dX2_readDeed_19 kc_0 ?_
    refine j_bipush (pc := 20) dX2_readDeed_20 kb_40 ?_
    refine j_v2 (pc := 22) (ci := 2) dX2_readDeed_22 mc_X2_number ml_X2_69 im_X2_number se_X2_number rfl rfl (by apply lkE; (with_reducible first | exact lkX_4e | exact lkX_4 | exact lkX_d | exact lkX_d1 | exact lkX_d3 | exact lkX_d5 | exact lkX_d7 | exact lkX_d9 | exact lkX_2); rfl) (by omega) (x_number hL hb1) (Nat.le_of_ble_eq_true rfl) ?_
    refine j_istore_n (pc := 25) dX2_readDeed_25 rfl (Nat.le_of_ble_eq_true rfl) rfl ?_
    refine j_aload_n (pc := 26) dX2_readDeed_26 rfl ?_
    refine j_aload_n (pc := 27) dX2_readDeed_27 rfl ?_
    refine j_v1n (pc := 28) (ci := 2) dX2_readDeed_28 mc_X2_close ml_X2_73 im_X2_close se_X2_close rfl rfl (by apply lkE; (with_reducible first | exact lkX_4e | exact lkX_4 | exact lkX_d | exact lkX_d1 | exact lkX_d3 | exact lkX_d5 | exact lkX_d7 | exact lkX_d9 | exact lkX_2); rfl) (by omega) (x_close hL (nuR_le hb1)) (Nat.le_of_ble_eq_true rfl) ?_
    refine j_aload_n (pc := 31) dX2_readDeed_31 rfl ?_
    refine j_getf (pc := 32) dX2_readDeed_32 fl_X2_22 (by apply lkE; (with_reducible first | exact lkX_4e | exact lkX_4 | exact lkX_d | exact lkX_d1 | exact lkX_d3 | exact lkX_d5 | exact lkX_d7 | exact lkX_d9 | exact lkX_2); rfl) rfl ?_
    refine j_bne (pc := 35) (tgt := 46) dX2_readDeed_35 rfl (fun zc35 => ?_) (fun zc35 => ?_)
    · refine j_return (pc := 46) dX2_readDeed_46 rfl ?_
      refine ⟨rfl, ?_⟩
      rw [deR]
      first
        | (rw [if_pos (show (clR lt L (nuR lt L 0 40 (de1 lt L s D))).2.2.2.2.1 = true from zc35)]; try rfl)
        | (rw [if_neg (show ¬ (clR lt L (nuR lt L 0 40 (de1 lt L s D))).2.2.2.2.1 = true from fun e => by cases zc35.symm.trans e)]; try rfl)
    · refine j_aload_n (pc := 38) dX2_readDeed_38 rfl ?_
      refine j_iload_n (pc := 39) dX2_readDeed_39 rfl ?_
      refine j_bipush (pc := 40) dX2_readDeed_40 kb_20 ?_
      refine j_isub (pc := 42) dX2_readDeed_42 ?_
      refine j_v1n (pc := 43) (ci := 1) dX2_readDeed_43 mc_X1_addDeed ml_X2_76 im_X1_addDeed se_X1_addDeed rfl rfl (by apply lkE; (with_reducible first | exact lkX_4e | exact lkX_4 | exact lkX_d | exact lkX_d1 | exact lkX_d3 | exact lkX_d5 | exact lkX_d7 | exact lkX_d9 | exact lkX_2); rfl) (by omega) (x_addDeed) (Nat.le_of_ble_eq_true rfl) ?_
      refine j_return (pc := 46) dX2_readDeed_46 rfl ?_
      refine ⟨rfl, ?_⟩
      rw [deR]
      first
        | (rw [if_pos (show (clR lt L (nuR lt L 0 40 (de1 lt L s D))).2.2.2.2.1 = true from zc35)]; try rfl)
        | (rw [if_neg (show ¬ (clR lt L (nuR lt L 0 40 (de1 lt L s D))).2.2.2.2.1 = true from fun e => by cases zc35.symm.trans e)]; try rfl)
  · refine j_iconst (pc := 10) dX2_readDeed_10 kc_1 ?_
    refine j_goto (pc := 11) (tgt := 15) dX2_readDeed_11 rfl ?_
    refine j_v1n (pc := 15) (ci := 2) dX2_readDeed_15 mc_X2_open ml_X2_65 im_X2_open se_X2_open rfl rfl (by apply lkE; (with_reducible first | exact lkX_4e | exact lkX_4 | exact lkX_d | exact lkX_d1 | exact lkX_d3 | exact lkX_d5 | exact lkX_d7 | exact lkX_d9 | exact lkX_2); rfl) (by omega) (x_open1 hL hb) (Nat.le_of_ble_eq_true rfl) ?_
    have e1 : de1 lt L s D = tkS lt L s := by
      simp [de1, opR, zc7]
    rw [← e1]
    have hb1 : (de1 lt L s D).2.1 ≤ L := by unfold de1; exact opR_le hb
    refine j_aload_n (pc := 18) dX2_readDeed_18 rfl ?_
    refine j_iconst (pc := 19) dX2_readDeed_19 kc_0 ?_
    refine j_bipush (pc := 20) dX2_readDeed_20 kb_40 ?_
    refine j_v2 (pc := 22) (ci := 2) dX2_readDeed_22 mc_X2_number ml_X2_69 im_X2_number se_X2_number rfl rfl (by apply lkE; (with_reducible first | exact lkX_4e | exact lkX_4 | exact lkX_d | exact lkX_d1 | exact lkX_d3 | exact lkX_d5 | exact lkX_d7 | exact lkX_d9 | exact lkX_2); rfl) (by omega) (x_number hL hb1) (Nat.le_of_ble_eq_true rfl) ?_
    refine j_istore_n (pc := 25) dX2_readDeed_25 rfl (Nat.le_of_ble_eq_true rfl) rfl ?_
    refine j_aload_n (pc := 26) dX2_readDeed_26 rfl ?_
    refine j_aload_n (pc := 27) dX2_readDeed_27 rfl ?_
    refine j_v1n (pc := 28) (ci := 2) dX2_readDeed_28 mc_X2_close ml_X2_73 im_X2_close se_X2_close rfl rfl (by apply lkE; (with_reducible first | exact lkX_4e | exact lkX_4 | exact lkX_d | exact lkX_d1 | exact lkX_d3 | exact lkX_d5 | exact lkX_d7 | exact lkX_d9 | exact lkX_2); rfl) (by omega) (x_close hL (nuR_le hb1)) (Nat.le_of_ble_eq_true rfl) ?_
    refine j_aload_n (pc := 31) dX2_readDeed_31 rfl ?_
    refine j_getf (pc := 32) dX2_readDeed_32 fl_X2_22 (by apply lkE; (with_reducible first | exact lkX_4e | exact lkX_4 | exact lkX_d | exact lkX_d1 | exact lkX_d3 | exact lkX_d5 | exact lkX_d7 | exact lkX_d9 | exact lkX_2); rfl) rfl ?_
    refine j_bne (pc := 35) (tgt := 46) dX2_readDeed_35 rfl (fun zc35 => ?_) (fun zc35 => ?_)
    · refine j_return (pc := 46) dX2_readDeed_46 rfl ?_
      refine ⟨rfl, ?_⟩
      rw [deR]
      first
        | (rw [if_pos (show (clR lt L (nuR lt L 0 40 (de1 lt L s D))).2.2.2.2.1 = true from zc35)]; try rfl)
        | (rw [if_neg (show ¬ (clR lt L (nuR lt L 0 40 (de1 lt L s D))).2.2.2.2.1 = true from fun e => by cases zc35.symm.trans e)]; try rfl)
    · refine j_aload_n (pc := 38) dX2_readDeed_38 rfl ?_
      refine j_iload_n (pc := 39) dX2_readDeed_39 rfl ?_
      refine j_bipush (pc := 40) dX2_readDeed_40 kb_20 ?_
      refine j_isub (pc := 42) dX2_readDeed_42 ?_
      refine j_v1n (pc := 43) (ci := 1) dX2_readDeed_43 mc_X1_addDeed ml_X2_76 im_X1_addDeed se_X1_addDeed rfl rfl (by apply lkE; (with_reducible first | exact lkX_4e | exact lkX_4 | exact lkX_d | exact lkX_d1 | exact lkX_d3 | exact lkX_d5 | exact lkX_d7 | exact lkX_d9 | exact lkX_2); rfl) (by omega) (x_addDeed) (Nat.le_of_ble_eq_true rfl) ?_
      refine j_return (pc := 46) dX2_readDeed_46 rfl ?_
      refine ⟨rfl, ?_⟩
      rw [deR]
      first
        | (rw [if_pos (show (clR lt L (nuR lt L 0 40 (de1 lt L s D))).2.2.2.2.1 = true from zc35)]; try rfl)
        | (rw [if_neg (show ¬ (clR lt L (nuR lt L 0 40 (de1 lt L s D))).2.2.2.2.1 = true from fun e => by cases zc35.symm.trans e)]; try rfl)

set_option maxRecDepth 20000 in
set_option maxHeartbeats 200000 in
theorem x_readBearer {L : Nat} (hL : L ≤ 150) {s : PSt} (hb : s.2.1 ≤ L)  : CD g 4 mX2_readBearer [.ref 4, .ref (pd sw)] (W1 scr tl lt lc (rdOf L s) sw P D S kk nx ring bu im kept tb tr tc ts) none (W1 scr tl lt lc (rdOf L (beR lt L s D).1) sw P ((beR lt L s D).2) S kk nx ring bu im kept tb tr tc ts) := by
  refine C.of (by decide +kernel) (by simp [Value.category]) (Nat.le_of_ble_eq_true rfl) ?_
  change J g mX2_readBearer 4 0 0 _ (W1 scr tl lt lc (rdOf L s) sw P D S kk nx ring bu im kept tb tr tc ts) 0 [some (.ref 4), some (.ref (pd sw)), none] []
  refine j_aload_n (pc := 0) dX2_readBearer_0 rfl ?_
  refine j_aload_n (pc := 1) dX2_readBearer_1 rfl ?_
  refine j_getf (pc := 2) dX2_readBearer_2 fl_X2_110 (by apply lkE; (with_reducible first | exact lkX_4e | exact lkX_4 | exact lkX_d | exact lkX_d1 | exact lkX_d3 | exact lkX_d5 | exact lkX_d7 | exact lkX_d9 | exact lkX_2); rfl) rfl ?_
  refine j_bipush (pc := 5) dX2_readBearer_5 kb_6 ?_
  refine j_icmp_ge (pc := 7) (tgt := 14) dX2_readBearer_7 rfl (fun zc7 => ?_) (fun zc7 => ?_)
  · refine j_iconst (pc := 14) dX2_readBearer_14 kc_0 ?_
    refine j_v1n (pc := 15) (ci := 2) dX2_readBearer_15 mc_X2_open ml_X2_65 im_X2_open se_X2_open rfl rfl (by apply lkE; (with_reducible first | exact lkX_4e | exact lkX_4 | exact lkX_d | exact lkX_d1 | exact lkX_d3 | exact lkX_d5 | exact lkX_d7 | exact lkX_d9 | exact lkX_2); rfl) (by omega) (x_open0 hL hb) (Nat.le_of_ble_eq_true rfl) ?_
    have e1 : be1 lt L s D = wrS s := by
      simp [be1, opR, zc7]
    rw [← e1]
    have hb1 : (be1 lt L s D).2.1 ≤ L := by unfold be1; exact opR_le hb
    refine j_aload_n (pc := 18) dX2_readBearer_18 rfl ?_
    refine j_iconst (pc := 19) dX2_readBearer_19 kc_1 ?_
    refine j_bipush (pc := 20) dX2_readBearer_20 kb_60 ?_
    refine j_v2 (pc := 22) (ci := 2) dX2_readBearer_22 mc_X2_number ml_X2_69 im_X2_number se_X2_number rfl rfl (by apply lkE; (with_reducible first | exact lkX_4e | exact lkX_4 | exact lkX_d | exact lkX_d1 | exact lkX_d3 | exact lkX_d5 | exact lkX_d7 | exact lkX_d9 | exact lkX_2); rfl) (by omega) (x_number hL hb1) (Nat.le_of_ble_eq_true rfl) ?_
    refine j_istore_n (pc := 25) dX2_readBearer_25 rfl (Nat.le_of_ble_eq_true rfl) rfl ?_
    refine j_aload_n (pc := 26) dX2_readBearer_26 rfl ?_
    refine j_aload_n (pc := 27) dX2_readBearer_27 rfl ?_
    refine j_v1n (pc := 28) (ci := 2) dX2_readBearer_28 mc_X2_close ml_X2_73 im_X2_close se_X2_close rfl rfl (by apply lkE; (with_reducible first | exact lkX_4e | exact lkX_4 | exact lkX_d | exact lkX_d1 | exact lkX_d3 | exact lkX_d5 | exact lkX_d7 | exact lkX_d9 | exact lkX_2); rfl) (by omega) (x_close hL (nuR_le hb1)) (Nat.le_of_ble_eq_true rfl) ?_
    refine j_aload_n (pc := 31) dX2_readBearer_31 rfl ?_
    refine j_getf (pc := 32) dX2_readBearer_32 fl_X2_22 (by apply lkE; (with_reducible first | exact lkX_4e | exact lkX_4 | exact lkX_d | exact lkX_d1 | exact lkX_d3 | exact lkX_d5 | exact lkX_d7 | exact lkX_d9 | exact lkX_2); rfl) rfl ?_
    refine j_bne (pc := 35) (tgt := 43) dX2_readBearer_35 rfl (fun zc35 => ?_) (fun zc35 => ?_)
    · refine j_return (pc := 43) dX2_readBearer_43 rfl ?_
      refine ⟨rfl, ?_⟩
      rw [beR]
      first
        | (rw [if_pos (show (clR lt L (nuR lt L 1 60 (be1 lt L s D))).2.2.2.2.1 = true from zc35)]; try rfl)
        | (rw [if_neg (show ¬ (clR lt L (nuR lt L 1 60 (be1 lt L s D))).2.2.2.2.1 = true from fun e => by cases zc35.symm.trans e)]; try rfl)
    · refine j_aload_n (pc := 38) dX2_readBearer_38 rfl ?_
      refine j_iload_n (pc := 39) dX2_readBearer_39 rfl ?_
      refine j_v1n (pc := 40) (ci := 1) dX2_readBearer_40 mc_X1_addBearer ml_X2_113 im_X1_addBearer se_X1_addBearer rfl rfl (by apply lkE; (with_reducible first | exact lkX_4e | exact lkX_4 | exact lkX_d | exact lkX_d1 | exact lkX_d3 | exact lkX_d5 | exact lkX_d7 | exact lkX_d9 | exact lkX_2); rfl) (by omega) (x_addBearer) (Nat.le_of_ble_eq_true rfl) ?_
      refine j_return (pc := 43) dX2_readBearer_43 rfl ?_
      refine ⟨rfl, ?_⟩
      rw [beR]
      first
        | (rw [if_pos (show (clR lt L (nuR lt L 1 60 (be1 lt L s D))).2.2.2.2.1 = true from zc35)]; try rfl)
        | (rw [if_neg (show ¬ (clR lt L (nuR lt L 1 60 (be1 lt L s D))).2.2.2.2.1 = true from fun e => by cases zc35.symm.trans e)]; try rfl)
  · refine j_iconst (pc := 10) dX2_readBearer_10 kc_1 ?_
    refine j_goto (pc := 11) (tgt := 15) dX2_readBearer_11 rfl ?_
    refine j_v1n (pc := 15) (ci := 2) dX2_readBearer_15 mc_X2_open ml_X2_65 im_X2_open se_X2_open rfl rfl (by apply lkE; (with_reducible first | exact lkX_4e | exact lkX_4 | exact lkX_d | exact lkX_d1 | exact lkX_d3 | exact lkX_d5 | exact lkX_d7 | exact lkX_d9 | exact lkX_2); rfl) (by omega) (x_open1 hL hb) (Nat.le_of_ble_eq_true rfl) ?_
    have e1 : be1 lt L s D = tkS lt L s := by
      simp [be1, opR, zc7]
    rw [← e1]
    have hb1 : (be1 lt L s D).2.1 ≤ L := by unfold be1; exact opR_le hb
    refine j_aload_n (pc := 18) dX2_readBearer_18 rfl ?_
    refine j_iconst (pc := 19) dX2_readBearer_19 kc_1 ?_
    refine j_bipush (pc := 20) dX2_readBearer_20 kb_60 ?_
    refine j_v2 (pc := 22) (ci := 2) dX2_readBearer_22 mc_X2_number ml_X2_69 im_X2_number se_X2_number rfl rfl (by apply lkE; (with_reducible first | exact lkX_4e | exact lkX_4 | exact lkX_d | exact lkX_d1 | exact lkX_d3 | exact lkX_d5 | exact lkX_d7 | exact lkX_d9 | exact lkX_2); rfl) (by omega) (x_number hL hb1) (Nat.le_of_ble_eq_true rfl) ?_
    refine j_istore_n (pc := 25) dX2_readBearer_25 rfl (Nat.le_of_ble_eq_true rfl) rfl ?_
    refine j_aload_n (pc := 26) dX2_readBearer_26 rfl ?_
    refine j_aload_n (pc := 27) dX2_readBearer_27 rfl ?_
    refine j_v1n (pc := 28) (ci := 2) dX2_readBearer_28 mc_X2_close ml_X2_73 im_X2_close se_X2_close rfl rfl (by apply lkE; (with_reducible first | exact lkX_4e | exact lkX_4 | exact lkX_d | exact lkX_d1 | exact lkX_d3 | exact lkX_d5 | exact lkX_d7 | exact lkX_d9 | exact lkX_2); rfl) (by omega) (x_close hL (nuR_le hb1)) (Nat.le_of_ble_eq_true rfl) ?_
    refine j_aload_n (pc := 31) dX2_readBearer_31 rfl ?_
    refine j_getf (pc := 32) dX2_readBearer_32 fl_X2_22 (by apply lkE; (with_reducible first | exact lkX_4e | exact lkX_4 | exact lkX_d | exact lkX_d1 | exact lkX_d3 | exact lkX_d5 | exact lkX_d7 | exact lkX_d9 | exact lkX_2); rfl) rfl ?_
    refine j_bne (pc := 35) (tgt := 43) dX2_readBearer_35 rfl (fun zc35 => ?_) (fun zc35 => ?_)
    · refine j_return (pc := 43) dX2_readBearer_43 rfl ?_
      refine ⟨rfl, ?_⟩
      rw [beR]
      first
        | (rw [if_pos (show (clR lt L (nuR lt L 1 60 (be1 lt L s D))).2.2.2.2.1 = true from zc35)]; try rfl)
        | (rw [if_neg (show ¬ (clR lt L (nuR lt L 1 60 (be1 lt L s D))).2.2.2.2.1 = true from fun e => by cases zc35.symm.trans e)]; try rfl)
    · refine j_aload_n (pc := 38) dX2_readBearer_38 rfl ?_
      refine j_iload_n (pc := 39) dX2_readBearer_39 rfl ?_
      refine j_v1n (pc := 40) (ci := 1) dX2_readBearer_40 mc_X1_addBearer ml_X2_113 im_X1_addBearer se_X1_addBearer rfl rfl (by apply lkE; (with_reducible first | exact lkX_4e | exact lkX_4 | exact lkX_d | exact lkX_d1 | exact lkX_d3 | exact lkX_d5 | exact lkX_d7 | exact lkX_d9 | exact lkX_2); rfl) (by omega) (x_addBearer) (Nat.le_of_ble_eq_true rfl) ?_
      refine j_return (pc := 43) dX2_readBearer_43 rfl ?_
      refine ⟨rfl, ?_⟩
      rw [beR]
      first
        | (rw [if_pos (show (clR lt L (nuR lt L 1 60 (be1 lt L s D))).2.2.2.2.1 = true from zc35)]; try rfl)
        | (rw [if_neg (show ¬ (clR lt L (nuR lt L 1 60 (be1 lt L s D))).2.2.2.2.1 = true from fun e => by cases zc35.symm.trans e)]; try rfl)

set_option maxRecDepth 20000 in
set_option maxHeartbeats 200000 in
theorem x_readDead {L : Nat} (hL : L ≤ 150) {s : PSt} (hb : s.2.1 ≤ L)  : CD g 4 mX2_readDead [.ref 4, .ref (pd sw)] (W1 scr tl lt lc (rdOf L s) sw P D S kk nx ring bu im kept tb tr tc ts) none (W1 scr tl lt lc (rdOf L (ldR lt L s D).1) sw P ((ldR lt L s D).2) S kk nx ring bu im kept tb tr tc ts) := by
  refine C.of (by decide +kernel) (by simp [Value.category]) (Nat.le_of_ble_eq_true rfl) ?_
  change J g mX2_readDead 4 0 0 _ (W1 scr tl lt lc (rdOf L s) sw P D S kk nx ring bu im kept tb tr tc ts) 0 [some (.ref 4), some (.ref (pd sw)), none, none, none] []
  refine j_aload_n (pc := 0) dX2_readDead_0 rfl ?_
  refine j_aload_n (pc := 1) dX2_readDead_1 rfl ?_
  refine j_getf (pc := 2) dX2_readDead_2 fl_X2_80 (by apply lkE; (with_reducible first | exact lkX_4e | exact lkX_4 | exact lkX_d | exact lkX_d1 | exact lkX_d3 | exact lkX_d5 | exact lkX_d7 | exact lkX_d9 | exact lkX_2); rfl) rfl ?_
  refine j_bipush (pc := 5) dX2_readDead_5 kb_6 ?_
  refine j_icmp_ge (pc := 7) (tgt := 14) dX2_readDead_7 rfl (fun zc7 => ?_) (fun zc7 => ?_)
  · refine j_iconst (pc := 14) dX2_readDead_14 kc_0 ?_
    refine j_v1n (pc := 15) (ci := 2) dX2_readDead_15 mc_X2_open ml_X2_65 im_X2_open se_X2_open rfl rfl (by apply lkE; (with_reducible first | exact lkX_4e | exact lkX_4 | exact lkX_d | exact lkX_d1 | exact lkX_d3 | exact lkX_d5 | exact lkX_d7 | exact lkX_d9 | exact lkX_2); rfl) (by omega) (x_open0 hL hb) (Nat.le_of_ble_eq_true rfl) ?_
    have e1 : ld1 lt L s D = wrS s := by
      simp [ld1, opR, zc7]
    rw [← e1]
    have hb1 : (ld1 lt L s D).2.1 ≤ L := by unfold ld1; exact opR_le hb
    have hb2 : (ld2 lt L s D).2.1 ≤ L := by unfold ld2; exact nuR_le hb1
    have hb3 : (ld3 lt L s D).2.1 ≤ L := by unfold ld3; exact nuR_le hb2
    refine j_aload_n (pc := 18) dX2_readDead_18 rfl ?_
    refine j_iconst (pc := 19) dX2_readDead_19 kc_1 ?_
    refine j_bipush (pc := 20) dX2_readDead_20 kb_40 ?_
    refine j_v2 (pc := 22) (ci := 2) dX2_readDead_22 mc_X2_number ml_X2_69 im_X2_number se_X2_number rfl rfl (by apply lkE; (with_reducible first | exact lkX_4e | exact lkX_4 | exact lkX_d | exact lkX_d1 | exact lkX_d3 | exact lkX_d5 | exact lkX_d7 | exact lkX_d9 | exact lkX_2); rfl) (by omega) (x_number hL hb1) (Nat.le_of_ble_eq_true rfl) ?_
    refine j_istore_n (pc := 25) dX2_readDead_25 rfl (Nat.le_of_ble_eq_true rfl) rfl ?_
    refine j_aload_n (pc := 26) dX2_readDead_26 rfl ?_
    refine j_iconst (pc := 27) dX2_readDead_27 kc_0 ?_
    refine j_bipush (pc := 28) dX2_readDead_28 kb_9 ?_
    refine j_v2 (pc := 30) (ci := 2) dX2_readDead_30 mc_X2_number ml_X2_69 im_X2_number se_X2_number rfl rfl (by apply lkE; (with_reducible first | exact lkX_4e | exact lkX_4 | exact lkX_d | exact lkX_d1 | exact lkX_d3 | exact lkX_d5 | exact lkX_d7 | exact lkX_d9 | exact lkX_2); rfl) (by omega) (x_number hL hb2) (Nat.le_of_ble_eq_true rfl) ?_
    refine j_istore_n (pc := 33) dX2_readDead_33 rfl (Nat.le_of_ble_eq_true rfl) rfl ?_
    refine j_aload_n (pc := 34) dX2_readDead_34 rfl ?_
    refine j_aload_n (pc := 35) dX2_readDead_35 rfl ?_
    refine j_v1 (pc := 36) (ci := 2) dX2_readDead_36 mc_X2_readDone ml_X2_83 im_X2_readDone se_X2_readDone rfl rfl (by apply lkE; (with_reducible first | exact lkX_4e | exact lkX_4 | exact lkX_d | exact lkX_d1 | exact lkX_d3 | exact lkX_d5 | exact lkX_d7 | exact lkX_d9 | exact lkX_2); rfl) (by omega) (x_readDone hL hb3) (Nat.le_of_ble_eq_true rfl) ?_
    refine j_istore (pc := 39) dX2_readDead_39 (Nat.le_of_ble_eq_true rfl) rfl ?_
    refine j_aload_n (pc := 41) dX2_readDead_41 rfl ?_
    refine j_aload_n (pc := 42) dX2_readDead_42 rfl ?_
    refine j_v1n (pc := 43) (ci := 2) dX2_readDead_43 mc_X2_close ml_X2_73 im_X2_close se_X2_close rfl rfl (by apply lkE; (with_reducible first | exact lkX_4e | exact lkX_4 | exact lkX_d | exact lkX_d1 | exact lkX_d3 | exact lkX_d5 | exact lkX_d7 | exact lkX_d9 | exact lkX_2); rfl) (by omega) (x_close hL (rdn_le hb3)) (Nat.le_of_ble_eq_true rfl) ?_
    refine j_aload_n (pc := 46) dX2_readDead_46 rfl ?_
    refine j_getf (pc := 47) dX2_readDead_47 fl_X2_22 (by apply lkE; (with_reducible first | exact lkX_4e | exact lkX_4 | exact lkX_d | exact lkX_d1 | exact lkX_d3 | exact lkX_d5 | exact lkX_d7 | exact lkX_d9 | exact lkX_2); rfl) rfl ?_
    refine j_bne (pc := 50) (tgt := 61) dX2_readDead_50 rfl (fun zc50 => ?_) (fun zc50 => ?_)
    · refine j_return (pc := 61) dX2_readDead_61 rfl ?_
      refine ⟨rfl, ?_⟩
      rw [ldR]
      first
        | (rw [if_pos (show (clR lt L (ld4 lt L s D).2).2.2.2.2.1 = true from zc50)]; try rfl)
        | (rw [if_neg (show ¬ (clR lt L (ld4 lt L s D).2).2.2.2.2.1 = true from fun e => by cases zc50.symm.trans e)]; try rfl)
    · refine j_aload_n (pc := 53) dX2_readDead_53 rfl ?_
      refine j_iload_n (pc := 54) dX2_readDead_54 rfl ?_
      refine j_iload_n (pc := 55) dX2_readDead_55 rfl ?_
      refine j_iload (pc := 56) dX2_readDead_56 rfl ?_
      refine j_v3n (pc := 58) (ci := 1) dX2_readDead_58 mc_X1_addDead ml_X2_87 im_X1_addDead se_X1_addDead rfl rfl (by apply lkE; (with_reducible first | exact lkX_4e | exact lkX_4 | exact lkX_d | exact lkX_d1 | exact lkX_d3 | exact lkX_d5 | exact lkX_d7 | exact lkX_d9 | exact lkX_2); rfl) (by omega) (x_addDead) (Nat.le_of_ble_eq_true rfl) ?_
      refine j_return (pc := 61) dX2_readDead_61 rfl ?_
      refine ⟨rfl, ?_⟩
      rw [ldR]
      first
        | (rw [if_pos (show (clR lt L (ld4 lt L s D).2).2.2.2.2.1 = true from zc50)]; try rfl)
        | (rw [if_neg (show ¬ (clR lt L (ld4 lt L s D).2).2.2.2.2.1 = true from fun e => by cases zc50.symm.trans e)]; try rfl)
  · refine j_iconst (pc := 10) dX2_readDead_10 kc_1 ?_
    refine j_goto (pc := 11) (tgt := 15) dX2_readDead_11 rfl ?_
    refine j_v1n (pc := 15) (ci := 2) dX2_readDead_15 mc_X2_open ml_X2_65 im_X2_open se_X2_open rfl rfl (by apply lkE; (with_reducible first | exact lkX_4e | exact lkX_4 | exact lkX_d | exact lkX_d1 | exact lkX_d3 | exact lkX_d5 | exact lkX_d7 | exact lkX_d9 | exact lkX_2); rfl) (by omega) (x_open1 hL hb) (Nat.le_of_ble_eq_true rfl) ?_
    have e1 : ld1 lt L s D = tkS lt L s := by
      simp [ld1, opR, zc7]
    rw [← e1]
    have hb1 : (ld1 lt L s D).2.1 ≤ L := by unfold ld1; exact opR_le hb
    have hb2 : (ld2 lt L s D).2.1 ≤ L := by unfold ld2; exact nuR_le hb1
    have hb3 : (ld3 lt L s D).2.1 ≤ L := by unfold ld3; exact nuR_le hb2
    refine j_aload_n (pc := 18) dX2_readDead_18 rfl ?_
    refine j_iconst (pc := 19) dX2_readDead_19 kc_1 ?_
    refine j_bipush (pc := 20) dX2_readDead_20 kb_40 ?_
    refine j_v2 (pc := 22) (ci := 2) dX2_readDead_22 mc_X2_number ml_X2_69 im_X2_number se_X2_number rfl rfl (by apply lkE; (with_reducible first | exact lkX_4e | exact lkX_4 | exact lkX_d | exact lkX_d1 | exact lkX_d3 | exact lkX_d5 | exact lkX_d7 | exact lkX_d9 | exact lkX_2); rfl) (by omega) (x_number hL hb1) (Nat.le_of_ble_eq_true rfl) ?_
    refine j_istore_n (pc := 25) dX2_readDead_25 rfl (Nat.le_of_ble_eq_true rfl) rfl ?_
    refine j_aload_n (pc := 26) dX2_readDead_26 rfl ?_
    refine j_iconst (pc := 27) dX2_readDead_27 kc_0 ?_
    refine j_bipush (pc := 28) dX2_readDead_28 kb_9 ?_
    refine j_v2 (pc := 30) (ci := 2) dX2_readDead_30 mc_X2_number ml_X2_69 im_X2_number se_X2_number rfl rfl (by apply lkE; (with_reducible first | exact lkX_4e | exact lkX_4 | exact lkX_d | exact lkX_d1 | exact lkX_d3 | exact lkX_d5 | exact lkX_d7 | exact lkX_d9 | exact lkX_2); rfl) (by omega) (x_number hL hb2) (Nat.le_of_ble_eq_true rfl) ?_
    refine j_istore_n (pc := 33) dX2_readDead_33 rfl (Nat.le_of_ble_eq_true rfl) rfl ?_
    refine j_aload_n (pc := 34) dX2_readDead_34 rfl ?_
    refine j_aload_n (pc := 35) dX2_readDead_35 rfl ?_
    refine j_v1 (pc := 36) (ci := 2) dX2_readDead_36 mc_X2_readDone ml_X2_83 im_X2_readDone se_X2_readDone rfl rfl (by apply lkE; (with_reducible first | exact lkX_4e | exact lkX_4 | exact lkX_d | exact lkX_d1 | exact lkX_d3 | exact lkX_d5 | exact lkX_d7 | exact lkX_d9 | exact lkX_2); rfl) (by omega) (x_readDone hL hb3) (Nat.le_of_ble_eq_true rfl) ?_
    refine j_istore (pc := 39) dX2_readDead_39 (Nat.le_of_ble_eq_true rfl) rfl ?_
    refine j_aload_n (pc := 41) dX2_readDead_41 rfl ?_
    refine j_aload_n (pc := 42) dX2_readDead_42 rfl ?_
    refine j_v1n (pc := 43) (ci := 2) dX2_readDead_43 mc_X2_close ml_X2_73 im_X2_close se_X2_close rfl rfl (by apply lkE; (with_reducible first | exact lkX_4e | exact lkX_4 | exact lkX_d | exact lkX_d1 | exact lkX_d3 | exact lkX_d5 | exact lkX_d7 | exact lkX_d9 | exact lkX_2); rfl) (by omega) (x_close hL (rdn_le hb3)) (Nat.le_of_ble_eq_true rfl) ?_
    refine j_aload_n (pc := 46) dX2_readDead_46 rfl ?_
    refine j_getf (pc := 47) dX2_readDead_47 fl_X2_22 (by apply lkE; (with_reducible first | exact lkX_4e | exact lkX_4 | exact lkX_d | exact lkX_d1 | exact lkX_d3 | exact lkX_d5 | exact lkX_d7 | exact lkX_d9 | exact lkX_2); rfl) rfl ?_
    refine j_bne (pc := 50) (tgt := 61) dX2_readDead_50 rfl (fun zc50 => ?_) (fun zc50 => ?_)
    · refine j_return (pc := 61) dX2_readDead_61 rfl ?_
      refine ⟨rfl, ?_⟩
      rw [ldR]
      first
        | (rw [if_pos (show (clR lt L (ld4 lt L s D).2).2.2.2.2.1 = true from zc50)]; try rfl)
        | (rw [if_neg (show ¬ (clR lt L (ld4 lt L s D).2).2.2.2.2.1 = true from fun e => by cases zc50.symm.trans e)]; try rfl)
    · refine j_aload_n (pc := 53) dX2_readDead_53 rfl ?_
      refine j_iload_n (pc := 54) dX2_readDead_54 rfl ?_
      refine j_iload_n (pc := 55) dX2_readDead_55 rfl ?_
      refine j_iload (pc := 56) dX2_readDead_56 rfl ?_
      refine j_v3n (pc := 58) (ci := 1) dX2_readDead_58 mc_X1_addDead ml_X2_87 im_X1_addDead se_X1_addDead rfl rfl (by apply lkE; (with_reducible first | exact lkX_4e | exact lkX_4 | exact lkX_d | exact lkX_d1 | exact lkX_d3 | exact lkX_d5 | exact lkX_d7 | exact lkX_d9 | exact lkX_2); rfl) (by omega) (x_addDead) (Nat.le_of_ble_eq_true rfl) ?_
      refine j_return (pc := 61) dX2_readDead_61 rfl ?_
      refine ⟨rfl, ?_⟩
      rw [ldR]
      first
        | (rw [if_pos (show (clR lt L (ld4 lt L s D).2).2.2.2.2.1 = true from zc50)]; try rfl)
        | (rw [if_neg (show ¬ (clR lt L (ld4 lt L s D).2).2.2.2.2.1 = true from fun e => by cases zc50.symm.trans e)]; try rfl)

set_option maxRecDepth 20000 in
set_option maxHeartbeats 200000 in
theorem x_readPin {L : Nat} (hL : L ≤ 150) {s : PSt} (hb : s.2.1 ≤ L)  : CD g 4 mX2_readPin [.ref 4, .ref (pd sw)] (W1 scr tl lt lc (rdOf L s) sw P D S kk nx ring bu im kept tb tr tc ts) none (W1 scr tl lt lc (rdOf L (piR lt L s D).1) sw P ((piR lt L s D).2) S kk nx ring bu im kept tb tr tc ts) := by
  refine C.of (by decide +kernel) (by simp [Value.category]) (Nat.le_of_ble_eq_true rfl) ?_
  change J g mX2_readPin 4 0 0 _ (W1 scr tl lt lc (rdOf L s) sw P D S kk nx ring bu im kept tb tr tc ts) 0 [some (.ref 4), some (.ref (pd sw))] []
  refine j_aload_n (pc := 0) dX2_readPin_0 rfl ?_
  refine j_aload_n (pc := 1) dX2_readPin_1 rfl ?_
  refine j_getf (pc := 2) dX2_readPin_2 fl_X2_26 (by apply lkE; (with_reducible first | exact lkX_4e | exact lkX_4 | exact lkX_d | exact lkX_d1 | exact lkX_d3 | exact lkX_d5 | exact lkX_d7 | exact lkX_d9 | exact lkX_2); rfl) rfl ?_
  refine j_bne (pc := 5) (tgt := 12) dX2_readPin_5 rfl (fun zc5 => ?_) (fun zc5 => ?_)
  · refine j_iconst (pc := 12) dX2_readPin_12 kc_0 ?_
    refine j_v1n (pc := 13) (ci := 2) dX2_readPin_13 mc_X2_open ml_X2_65 im_X2_open se_X2_open rfl rfl (by apply lkE; (with_reducible first | exact lkX_4e | exact lkX_4 | exact lkX_d | exact lkX_d1 | exact lkX_d3 | exact lkX_d5 | exact lkX_d7 | exact lkX_d9 | exact lkX_2); rfl) (by omega) (x_open0 hL hb) (Nat.le_of_ble_eq_true rfl) ?_
    have zq : s.2.2.2.2.2.1 = _ := zc5
    have e1 : pi1 lt L s = wrS s := by
      simp [pi1, opR, zq]
    rw [← e1]
    have hb1 : (pi1 lt L s).2.1 ≤ L := by unfold pi1; exact opR_le hb
    refine j_aload_n (pc := 16) dX2_readPin_16 rfl ?_
    refine j_aload_n (pc := 17) dX2_readPin_17 rfl ?_
    refine j_bipush (pc := 18) dX2_readPin_18 kb_10 ?_
    refine j_bipush (pc := 20) dX2_readPin_20 kb_99 ?_
    refine j_v2 (pc := 22) (ci := 2) dX2_readPin_22 mc_X2_number ml_X2_69 im_X2_number se_X2_number rfl rfl (by apply lkE; (with_reducible first | exact lkX_4e | exact lkX_4 | exact lkX_d | exact lkX_d1 | exact lkX_d3 | exact lkX_d5 | exact lkX_d7 | exact lkX_d9 | exact lkX_2); rfl) (by omega) (x_number hL hb1) (Nat.le_of_ble_eq_true rfl) ?_
    refine j_putf (pc := 25) dX2_readPin_25 fl_X2_116 (jfit_i _) (by apply lkE; (with_reducible first | exact lkX_4e | exact lkX_4 | exact lkX_d | exact lkX_d1 | exact lkX_d3 | exact lkX_d5 | exact lkX_d7 | exact lkX_d9 | exact lkX_2); rfl) upX_d ?_
    refine j_aload_n (pc := 28) dX2_readPin_28 rfl ?_
    refine j_aload_n (pc := 29) dX2_readPin_29 rfl ?_
    refine j_v1n (pc := 30) (ci := 2) dX2_readPin_30 mc_X2_close ml_X2_73 im_X2_close se_X2_close rfl rfl (by apply lkE; (with_reducible first | exact lkX_4e | exact lkX_4 | exact lkX_d | exact lkX_d1 | exact lkX_d3 | exact lkX_d5 | exact lkX_d7 | exact lkX_d9 | exact lkX_2); rfl) (by omega) (x_close hL (nuR_le hb1)) (Nat.le_of_ble_eq_true rfl) ?_
    refine j_aload_n (pc := 33) dX2_readPin_33 rfl ?_
    refine j_iconst (pc := 34) dX2_readPin_34 kc_1 ?_
    refine j_putf (pc := 35) dX2_readPin_35 fl_X2_26 (jfit_z true) (by apply lkE; (with_reducible first | exact lkX_4e | exact lkX_4 | exact lkX_d | exact lkX_d1 | exact lkX_d3 | exact lkX_d5 | exact lkX_d7 | exact lkX_d9 | exact lkX_2); rfl) (upX_4 (w2 := true)) ?_
    refine j_return (pc := 38) dX2_readPin_38 rfl ?_
    exact ⟨rfl, rfl⟩
  · refine j_iconst (pc := 8) dX2_readPin_8 kc_1 ?_
    refine j_goto (pc := 9) (tgt := 13) dX2_readPin_9 rfl ?_
    refine j_v1n (pc := 13) (ci := 2) dX2_readPin_13 mc_X2_open ml_X2_65 im_X2_open se_X2_open rfl rfl (by apply lkE; (with_reducible first | exact lkX_4e | exact lkX_4 | exact lkX_d | exact lkX_d1 | exact lkX_d3 | exact lkX_d5 | exact lkX_d7 | exact lkX_d9 | exact lkX_2); rfl) (by omega) (x_open1 hL hb) (Nat.le_of_ble_eq_true rfl) ?_
    have zq : s.2.2.2.2.2.1 = _ := zc5
    have e1 : pi1 lt L s = tkS lt L s := by
      simp [pi1, opR, zq]
    rw [← e1]
    have hb1 : (pi1 lt L s).2.1 ≤ L := by unfold pi1; exact opR_le hb
    refine j_aload_n (pc := 16) dX2_readPin_16 rfl ?_
    refine j_aload_n (pc := 17) dX2_readPin_17 rfl ?_
    refine j_bipush (pc := 18) dX2_readPin_18 kb_10 ?_
    refine j_bipush (pc := 20) dX2_readPin_20 kb_99 ?_
    refine j_v2 (pc := 22) (ci := 2) dX2_readPin_22 mc_X2_number ml_X2_69 im_X2_number se_X2_number rfl rfl (by apply lkE; (with_reducible first | exact lkX_4e | exact lkX_4 | exact lkX_d | exact lkX_d1 | exact lkX_d3 | exact lkX_d5 | exact lkX_d7 | exact lkX_d9 | exact lkX_2); rfl) (by omega) (x_number hL hb1) (Nat.le_of_ble_eq_true rfl) ?_
    refine j_putf (pc := 25) dX2_readPin_25 fl_X2_116 (jfit_i _) (by apply lkE; (with_reducible first | exact lkX_4e | exact lkX_4 | exact lkX_d | exact lkX_d1 | exact lkX_d3 | exact lkX_d5 | exact lkX_d7 | exact lkX_d9 | exact lkX_2); rfl) upX_d ?_
    refine j_aload_n (pc := 28) dX2_readPin_28 rfl ?_
    refine j_aload_n (pc := 29) dX2_readPin_29 rfl ?_
    refine j_v1n (pc := 30) (ci := 2) dX2_readPin_30 mc_X2_close ml_X2_73 im_X2_close se_X2_close rfl rfl (by apply lkE; (with_reducible first | exact lkX_4e | exact lkX_4 | exact lkX_d | exact lkX_d1 | exact lkX_d3 | exact lkX_d5 | exact lkX_d7 | exact lkX_d9 | exact lkX_2); rfl) (by omega) (x_close hL (nuR_le hb1)) (Nat.le_of_ble_eq_true rfl) ?_
    refine j_aload_n (pc := 33) dX2_readPin_33 rfl ?_
    refine j_iconst (pc := 34) dX2_readPin_34 kc_1 ?_
    refine j_putf (pc := 35) dX2_readPin_35 fl_X2_26 (jfit_z true) (by apply lkE; (with_reducible first | exact lkX_4e | exact lkX_4 | exact lkX_d | exact lkX_d1 | exact lkX_d3 | exact lkX_d5 | exact lkX_d7 | exact lkX_d9 | exact lkX_2); rfl) (upX_4 (w2 := true)) ?_
    refine j_return (pc := 38) dX2_readPin_38 rfl ?_
    exact ⟨rfl, rfl⟩

set_option maxRecDepth 20000 in
set_option maxHeartbeats 200000 in
theorem x_readRust {L : Nat} (hL : L ≤ 150) {s : PSt} (hb : s.2.1 ≤ L)  : CD g 4 mX2_readRust [.ref 4, .ref (pd sw)] (W1 scr tl lt lc (rdOf L s) sw P D S kk nx ring bu im kept tb tr tc ts) none (W1 scr tl lt lc (rdOf L (ruR lt L s D).1) sw P ((ruR lt L s D).2) S kk nx ring bu im kept tb tr tc ts) := by
  refine C.of (by decide +kernel) (by simp [Value.category]) (Nat.le_of_ble_eq_true rfl) ?_
  change J g mX2_readRust 4 0 0 _ (W1 scr tl lt lc (rdOf L s) sw P D S kk nx ring bu im kept tb tr tc ts) 0 [some (.ref 4), some (.ref (pd sw))] []
  refine j_aload_n (pc := 0) dX2_readRust_0 rfl ?_
  refine j_aload_n (pc := 1) dX2_readRust_1 rfl ?_
  refine j_getf (pc := 2) dX2_readRust_2 fl_X2_29 (by apply lkE; (with_reducible first | exact lkX_4e | exact lkX_4 | exact lkX_d | exact lkX_d1 | exact lkX_d3 | exact lkX_d5 | exact lkX_d7 | exact lkX_d9 | exact lkX_2); rfl) rfl ?_
  refine j_bne (pc := 5) (tgt := 12) dX2_readRust_5 rfl (fun zc5 => ?_) (fun zc5 => ?_)
  · refine j_iconst (pc := 12) dX2_readRust_12 kc_0 ?_
    refine j_v1n (pc := 13) (ci := 2) dX2_readRust_13 mc_X2_open ml_X2_65 im_X2_open se_X2_open rfl rfl (by apply lkE; (with_reducible first | exact lkX_4e | exact lkX_4 | exact lkX_d | exact lkX_d1 | exact lkX_d3 | exact lkX_d5 | exact lkX_d7 | exact lkX_d9 | exact lkX_2); rfl) (by omega) (x_open0 hL hb) (Nat.le_of_ble_eq_true rfl) ?_
    have zq : s.2.2.2.2.2.2 = _ := zc5
    have e1 : ru1 lt L s = wrS s := by
      simp [ru1, opR, zq]
    rw [← e1]
    have hb1 : (ru1 lt L s).2.1 ≤ L := by unfold ru1; exact opR_le hb
    refine j_aload_n (pc := 16) dX2_readRust_16 rfl ?_
    refine j_aload_n (pc := 17) dX2_readRust_17 rfl ?_
    refine j_iconst (pc := 18) dX2_readRust_18 kc_0 ?_
    refine j_bipush (pc := 19) dX2_readRust_19 kb_9 ?_
    refine j_v2 (pc := 21) (ci := 2) dX2_readRust_21 mc_X2_number ml_X2_69 im_X2_number se_X2_number rfl rfl (by apply lkE; (with_reducible first | exact lkX_4e | exact lkX_4 | exact lkX_d | exact lkX_d1 | exact lkX_d3 | exact lkX_d5 | exact lkX_d7 | exact lkX_d9 | exact lkX_2); rfl) (by omega) (x_number hL hb1) (Nat.le_of_ble_eq_true rfl) ?_
    refine j_putf (pc := 24) dX2_readRust_24 fl_X2_119 (jfit_i _) (by apply lkE; (with_reducible first | exact lkX_4e | exact lkX_4 | exact lkX_d | exact lkX_d1 | exact lkX_d3 | exact lkX_d5 | exact lkX_d7 | exact lkX_d9 | exact lkX_2); rfl) upX_d ?_
    refine j_aload_n (pc := 27) dX2_readRust_27 rfl ?_
    refine j_aload_n (pc := 28) dX2_readRust_28 rfl ?_
    refine j_v1n (pc := 29) (ci := 2) dX2_readRust_29 mc_X2_close ml_X2_73 im_X2_close se_X2_close rfl rfl (by apply lkE; (with_reducible first | exact lkX_4e | exact lkX_4 | exact lkX_d | exact lkX_d1 | exact lkX_d3 | exact lkX_d5 | exact lkX_d7 | exact lkX_d9 | exact lkX_2); rfl) (by omega) (x_close hL (nuR_le hb1)) (Nat.le_of_ble_eq_true rfl) ?_
    refine j_aload_n (pc := 32) dX2_readRust_32 rfl ?_
    refine j_iconst (pc := 33) dX2_readRust_33 kc_1 ?_
    refine j_putf (pc := 34) dX2_readRust_34 fl_X2_29 (jfit_z true) (by apply lkE; (with_reducible first | exact lkX_4e | exact lkX_4 | exact lkX_d | exact lkX_d1 | exact lkX_d3 | exact lkX_d5 | exact lkX_d7 | exact lkX_d9 | exact lkX_2); rfl) (upX_4 (w3 := true)) ?_
    refine j_return (pc := 37) dX2_readRust_37 rfl ?_
    exact ⟨rfl, rfl⟩
  · refine j_iconst (pc := 8) dX2_readRust_8 kc_1 ?_
    refine j_goto (pc := 9) (tgt := 13) dX2_readRust_9 rfl ?_
    refine j_v1n (pc := 13) (ci := 2) dX2_readRust_13 mc_X2_open ml_X2_65 im_X2_open se_X2_open rfl rfl (by apply lkE; (with_reducible first | exact lkX_4e | exact lkX_4 | exact lkX_d | exact lkX_d1 | exact lkX_d3 | exact lkX_d5 | exact lkX_d7 | exact lkX_d9 | exact lkX_2); rfl) (by omega) (x_open1 hL hb) (Nat.le_of_ble_eq_true rfl) ?_
    have zq : s.2.2.2.2.2.2 = _ := zc5
    have e1 : ru1 lt L s = tkS lt L s := by
      simp [ru1, opR, zq]
    rw [← e1]
    have hb1 : (ru1 lt L s).2.1 ≤ L := by unfold ru1; exact opR_le hb
    refine j_aload_n (pc := 16) dX2_readRust_16 rfl ?_
    refine j_aload_n (pc := 17) dX2_readRust_17 rfl ?_
    refine j_iconst (pc := 18) dX2_readRust_18 kc_0 ?_
    refine j_bipush (pc := 19) dX2_readRust_19 kb_9 ?_
    refine j_v2 (pc := 21) (ci := 2) dX2_readRust_21 mc_X2_number ml_X2_69 im_X2_number se_X2_number rfl rfl (by apply lkE; (with_reducible first | exact lkX_4e | exact lkX_4 | exact lkX_d | exact lkX_d1 | exact lkX_d3 | exact lkX_d5 | exact lkX_d7 | exact lkX_d9 | exact lkX_2); rfl) (by omega) (x_number hL hb1) (Nat.le_of_ble_eq_true rfl) ?_
    refine j_putf (pc := 24) dX2_readRust_24 fl_X2_119 (jfit_i _) (by apply lkE; (with_reducible first | exact lkX_4e | exact lkX_4 | exact lkX_d | exact lkX_d1 | exact lkX_d3 | exact lkX_d5 | exact lkX_d7 | exact lkX_d9 | exact lkX_2); rfl) upX_d ?_
    refine j_aload_n (pc := 27) dX2_readRust_27 rfl ?_
    refine j_aload_n (pc := 28) dX2_readRust_28 rfl ?_
    refine j_v1n (pc := 29) (ci := 2) dX2_readRust_29 mc_X2_close ml_X2_73 im_X2_close se_X2_close rfl rfl (by apply lkE; (with_reducible first | exact lkX_4e | exact lkX_4 | exact lkX_d | exact lkX_d1 | exact lkX_d3 | exact lkX_d5 | exact lkX_d7 | exact lkX_d9 | exact lkX_2); rfl) (by omega) (x_close hL (nuR_le hb1)) (Nat.le_of_ble_eq_true rfl) ?_
    refine j_aload_n (pc := 32) dX2_readRust_32 rfl ?_
    refine j_iconst (pc := 33) dX2_readRust_33 kc_1 ?_
    refine j_putf (pc := 34) dX2_readRust_34 fl_X2_29 (jfit_z true) (by apply lkE; (with_reducible first | exact lkX_4e | exact lkX_4 | exact lkX_d | exact lkX_d1 | exact lkX_d3 | exact lkX_d5 | exact lkX_d7 | exact lkX_d9 | exact lkX_2); rfl) (upX_4 (w3 := true)) ?_
    refine j_return (pc := 37) dX2_readRust_37 rfl ?_
    exact ⟨rfl, rfl⟩

end

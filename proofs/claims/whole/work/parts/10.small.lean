/-! small functions -/
section
variable {g : GG} {h : List AC} {Q : Option Value → List AC → Prop}
def jin (v lo hi : Int32) : Bool := decide (¬ v < lo) && decide (¬ hi < v)
def tbit (s i : Int32) : Bool := decide (¬ (s &&& (1 <<< (i &&& 31))) = 0)
def bitI (i : Int32) : Int32 := 1 <<< (i &&& 31)
def allI (n : Int32) : Int32 := (1 <<< (n &&& 31)) - 1
def shr (x : Int32) (n : Int32) : Int32 := (x.toUInt32 >>> (n.toUInt32 &&& Int32.toUInt32 31)).toInt32
def bc1 (x : Int32) : Int32 := x - (shr x 1 &&& 1431655765)
def bc2 (x : Int32) : Int32 := (x &&& 858993459) + (shr x 2 &&& 858993459)
def bc3 (x : Int32) : Int32 := (x + shr x 4) &&& 252645135
def bc4 (x : Int32) : Int32 := x + shr x 8
def bc5 (x : Int32) : Int32 := x + shr x 16
def bcI (x : Int32) : Int32 := bc5 (bc4 (bc3 (bc2 (bc1 x)))) &&& 63
/-- a loop that counts up -/
def iter {α : Type} (step : Nat → α → α) : Nat → Nat → α → α
  | 0, _, a => a
  | m + 1, k, a => iter step m (k + 1) (step k a)
theorem iter_last {α : Type} (step : Nat → α → α) : ∀ (m k : Nat) (a : α), iter step (m + 1) k a = step (k + m) (iter step m k a)
  | 0, k, a => rfl
  | m + 1, k, a => by
    rw [show iter step (m + 1 + 1) k a = iter step (m + 1) (k + 1) (step k a) from rfl, iter_last step m (k + 1) (step k a), show iter step (m + 1) k a = iter step m (k + 1) (step k a) from rfl, show k + 1 + m = k + (m + 1) by omega]
theorem nI_s (k : Nat) : nI k + Int32.ofInt 1 = nI (k + 1) := (nI_succ k).symm
theorem nI_s1 (k : Nat) : nI k + 1 = nI (k + 1) := (nI_succ k).symm
theorem vin_nI {k n : Nat} (h : k < n) (hn : n < 2 ^ 31) : vp_in (nI k) n := vp_in_nI h hn
set_option maxRecDepth 20000 in
set_option maxHeartbeats 1000000 in
theorem c_isWithin {v lo hi : Int32} : CD g 0 mX6_isWithin [.int v, .int lo, .int hi] h (some (.int (b2i (jin v lo hi)))) h := by
  refine C.of (by decide +kernel) (by simp [Value.category]) (Nat.le_of_ble_eq_true rfl) ?_
  change J g mX6_isWithin 0 0 0 _ h 0 [some (.int v), some (.int lo), some (.int hi)] []
  refine j_iload_n (pc := 0) dX6_isWithin_0 rfl ?_
  refine j_iload_n (pc := 1) dX6_isWithin_1 rfl ?_
  refine j_icmp_lt (pc := 2) (tgt := 14) dX6_isWithin_2 rfl (fun zc2 => ?_) (fun zc2 => ?_)
  · refine j_iconst (pc := 14) dX6_isWithin_14 kc_0 ?_
    refine j_zret (pc := 15) (b := jin v lo hi) dX6_isWithin_15 rfl (by simp [jin, b2i, *]) ?_
    exact ⟨rfl, rfl⟩
  · refine j_iload_n (pc := 5) dX6_isWithin_5 rfl ?_
    refine j_iload_n (pc := 6) dX6_isWithin_6 rfl ?_
    refine j_icmp_gt (pc := 7) (tgt := 14) dX6_isWithin_7 rfl (fun zc7 => ?_) (fun zc7 => ?_)
    · refine j_iconst (pc := 14) dX6_isWithin_14 kc_0 ?_
      refine j_zret (pc := 15) (b := jin v lo hi) dX6_isWithin_15 rfl (by simp [jin, b2i, *]) ?_
      exact ⟨rfl, rfl⟩
    · refine j_iconst (pc := 10) dX6_isWithin_10 kc_1 ?_
      refine j_goto (pc := 11) (tgt := 15) dX6_isWithin_11 rfl ?_
      refine j_zret (pc := 15) (b := jin v lo hi) dX6_isWithin_15 rfl (by simp [jin, b2i, *]) ?_
      exact ⟨rfl, rfl⟩

set_option maxRecDepth 20000 in
set_option maxHeartbeats 1000000 in
theorem c_in {v lo hi : Int32} : CD g 0 mX7_in [.int v, .int lo, .int hi] h (some (.int (b2i (jin v lo hi)))) h := by
  refine C.of (by decide +kernel) (by simp [Value.category]) (Nat.le_of_ble_eq_true rfl) ?_
  change J g mX7_in 0 0 0 _ h 0 [some (.int v), some (.int lo), some (.int hi)] []
  refine j_iload_n (pc := 0) dX7_in_0 rfl ?_
  refine j_iload_n (pc := 1) dX7_in_1 rfl ?_
  refine j_icmp_lt (pc := 2) (tgt := 14) dX7_in_2 rfl (fun zc2 => ?_) (fun zc2 => ?_)
  · refine j_iconst (pc := 14) dX7_in_14 kc_0 ?_
    refine j_zret (pc := 15) (b := jin v lo hi) dX7_in_15 rfl (by simp [jin, b2i, *]) ?_
    exact ⟨rfl, rfl⟩
  · refine j_iload_n (pc := 5) dX7_in_5 rfl ?_
    refine j_iload_n (pc := 6) dX7_in_6 rfl ?_
    refine j_icmp_gt (pc := 7) (tgt := 14) dX7_in_7 rfl (fun zc7 => ?_) (fun zc7 => ?_)
    · refine j_iconst (pc := 14) dX7_in_14 kc_0 ?_
      refine j_zret (pc := 15) (b := jin v lo hi) dX7_in_15 rfl (by simp [jin, b2i, *]) ?_
      exact ⟨rfl, rfl⟩
    · refine j_iconst (pc := 10) dX7_in_10 kc_1 ?_
      refine j_goto (pc := 11) (tgt := 15) dX7_in_11 rfl ?_
      refine j_zret (pc := 15) (b := jin v lo hi) dX7_in_15 rfl (by simp [jin, b2i, *]) ?_
      exact ⟨rfl, rfl⟩

set_option maxRecDepth 20000 in
set_option maxHeartbeats 1000000 in
theorem c_bit {i : Int32} : CD g 0 mX6_bit [.int i] h (some (.int (bitI i))) h := by
  refine C.of (by decide +kernel) (by simp [Value.category]) (Nat.le_of_ble_eq_true rfl) ?_
  change J g mX6_bit 0 0 0 _ h 0 [some (.int i)] []
  refine j_iconst (pc := 0) dX6_bit_0 kc_1 ?_
  refine j_iload_n (pc := 1) dX6_bit_1 rfl ?_
  refine j_ishl (pc := 2) dX6_bit_2 ?_
  refine j_ireturn (pc := 3) dX6_bit_3 rfl ?_
  exact ⟨rfl, rfl⟩

set_option maxRecDepth 20000 in
set_option maxHeartbeats 1000000 in
theorem c_isIn {s i : Int32} : CD g 0 mX6_isIn [.int s, .int i] h (some (.int (b2i (tbit s i)))) h := by
  refine C.of (by decide +kernel) (by simp [Value.category]) (Nat.le_of_ble_eq_true rfl) ?_
  change J g mX6_isIn 0 0 0 _ h 0 [some (.int s), some (.int i)] []
  refine j_iload_n (pc := 0) dX6_isIn_0 rfl ?_
  refine j_iconst (pc := 1) dX6_isIn_1 kc_1 ?_
  refine j_iload_n (pc := 2) dX6_isIn_2 rfl ?_
  refine j_ishl (pc := 3) dX6_isIn_3 ?_
  refine j_iand (pc := 4) dX6_isIn_4 ?_
  refine j_if_eq (pc := 5) (tgt := 12) dX6_isIn_5 rfl (fun zc5 => ?_) (fun zc5 => ?_)
  · refine j_iconst (pc := 12) dX6_isIn_12 kc_0 ?_
    refine j_zret (pc := 13) (b := tbit s i) dX6_isIn_13 rfl (by simp [tbit, b2i, *]) ?_
    exact ⟨rfl, rfl⟩
  · refine j_iconst (pc := 8) dX6_isIn_8 kc_1 ?_
    refine j_goto (pc := 9) (tgt := 13) dX6_isIn_9 rfl ?_
    refine j_zret (pc := 13) (b := tbit s i) dX6_isIn_13 rfl (by simp [tbit, b2i, *]) ?_
    exact ⟨rfl, rfl⟩

set_option maxRecDepth 20000 in
set_option maxHeartbeats 1000000 in
theorem c_allOf {n : Int32} : CD g 0 mX6_allOf [.int n] h (some (.int (allI n))) h := by
  refine C.of (by decide +kernel) (by simp [Value.category]) (Nat.le_of_ble_eq_true rfl) ?_
  change J g mX6_allOf 0 0 0 _ h 0 [some (.int n)] []
  refine j_iconst (pc := 0) dX6_allOf_0 kc_1 ?_
  refine j_iload_n (pc := 1) dX6_allOf_1 rfl ?_
  refine j_ishl (pc := 2) dX6_allOf_2 ?_
  refine j_iconst (pc := 3) dX6_allOf_3 kc_1 ?_
  refine j_isub (pc := 4) dX6_allOf_4 ?_
  refine j_ireturn (pc := 5) dX6_allOf_5 rfl ?_
  exact ⟨rfl, rfl⟩

set_option maxRecDepth 20000 in
set_option maxHeartbeats 1000000 in
theorem c_bitCount {x : Int32} : CD g 0 mJ6_bitCount_0f7a4 [.int x] h (some (.int (bcI x))) h := by
  refine C.of (by decide +kernel) (by simp [Value.category]) (Nat.le_of_ble_eq_true rfl) ?_
  change J g mJ6_bitCount_0f7a4 0 0 0 _ h 0 [some (.int x)] []
  refine j_iload_n (pc := 0) dJ6_bitCount_0f7a4_0 rfl ?_
  refine j_iload_n (pc := 1) dJ6_bitCount_0f7a4_1 rfl ?_
  refine j_iconst (pc := 2) dJ6_bitCount_0f7a4_2 kc_1 ?_
  refine j_iushr (pc := 3) dJ6_bitCount_0f7a4_3 rfl ?_
  refine j_ldcw (pc := 4) dJ6_bitCount_0f7a4_4 ck_J6_265 ?_
  refine j_iand (pc := 7) dJ6_bitCount_0f7a4_7 ?_
  refine j_isub (pc := 8) dJ6_bitCount_0f7a4_8 ?_
  refine j_istore_n (pc := 9) dJ6_bitCount_0f7a4_9 rfl (Nat.le_of_ble_eq_true rfl) rfl ?_
  refine j_iload_n (pc := 10) dJ6_bitCount_0f7a4_10 rfl ?_
  refine j_ldcw (pc := 11) dJ6_bitCount_0f7a4_11 ck_J6_266 ?_
  refine j_iand (pc := 14) dJ6_bitCount_0f7a4_14 ?_
  refine j_iload_n (pc := 15) dJ6_bitCount_0f7a4_15 rfl ?_
  refine j_iconst (pc := 16) dJ6_bitCount_0f7a4_16 kc_2 ?_
  refine j_iushr (pc := 17) dJ6_bitCount_0f7a4_17 rfl ?_
  refine j_ldcw (pc := 18) dJ6_bitCount_0f7a4_18 ck_J6_266 ?_
  refine j_iand (pc := 21) dJ6_bitCount_0f7a4_21 ?_
  refine j_iadd (pc := 22) dJ6_bitCount_0f7a4_22 ?_
  refine j_istore_n (pc := 23) dJ6_bitCount_0f7a4_23 rfl (Nat.le_of_ble_eq_true rfl) rfl ?_
  refine j_iload_n (pc := 24) dJ6_bitCount_0f7a4_24 rfl ?_
  refine j_iload_n (pc := 25) dJ6_bitCount_0f7a4_25 rfl ?_
  refine j_iconst (pc := 26) dJ6_bitCount_0f7a4_26 kc_4 ?_
  refine j_iushr (pc := 27) dJ6_bitCount_0f7a4_27 rfl ?_
  refine j_iadd (pc := 28) dJ6_bitCount_0f7a4_28 ?_
  refine j_ldcw (pc := 29) dJ6_bitCount_0f7a4_29 ck_J6_267 ?_
  refine j_iand (pc := 32) dJ6_bitCount_0f7a4_32 ?_
  refine j_istore_n (pc := 33) dJ6_bitCount_0f7a4_33 rfl (Nat.le_of_ble_eq_true rfl) rfl ?_
  refine j_iload_n (pc := 34) dJ6_bitCount_0f7a4_34 rfl ?_
  refine j_iload_n (pc := 35) dJ6_bitCount_0f7a4_35 rfl ?_
  refine j_bipush (pc := 36) dJ6_bitCount_0f7a4_36 kb_8 ?_
  refine j_iushr (pc := 38) dJ6_bitCount_0f7a4_38 rfl ?_
  refine j_iadd (pc := 39) dJ6_bitCount_0f7a4_39 ?_
  refine j_istore_n (pc := 40) dJ6_bitCount_0f7a4_40 rfl (Nat.le_of_ble_eq_true rfl) rfl ?_
  refine j_iload_n (pc := 41) dJ6_bitCount_0f7a4_41 rfl ?_
  refine j_iload_n (pc := 42) dJ6_bitCount_0f7a4_42 rfl ?_
  refine j_bipush (pc := 43) dJ6_bitCount_0f7a4_43 kb_16 ?_
  refine j_iushr (pc := 45) dJ6_bitCount_0f7a4_45 rfl ?_
  refine j_iadd (pc := 46) dJ6_bitCount_0f7a4_46 ?_
  refine j_istore_n (pc := 47) dJ6_bitCount_0f7a4_47 rfl (Nat.le_of_ble_eq_true rfl) rfl ?_
  refine j_iload_n (pc := 48) dJ6_bitCount_0f7a4_48 rfl ?_
  refine j_bipush (pc := 49) dJ6_bitCount_0f7a4_49 kb_63 ?_
  refine j_iand (pc := 51) dJ6_bitCount_0f7a4_51 ?_
  refine j_ireturn (pc := 52) dJ6_bitCount_0f7a4_52 rfl ?_
  exact ⟨rfl, rfl⟩

set_option maxRecDepth 20000 in
set_option maxHeartbeats 1000000 in
theorem c_wayOf {a b : Int32} : CD g 0 mX6_wayOf [.int a, .int b] h (some (.int ((a <<< (6 &&& 31)) ||| b))) h := by
  refine C.of (by decide +kernel) (by simp [Value.category]) (Nat.le_of_ble_eq_true rfl) ?_
  change J g mX6_wayOf 0 0 0 _ h 0 [some (.int a), some (.int b)] []
  refine j_iload_n (pc := 0) dX6_wayOf_0 rfl ?_
  refine j_bipush (pc := 1) dX6_wayOf_1 kb_6 ?_
  refine j_ishl (pc := 3) dX6_wayOf_3 ?_
  refine j_iload_n (pc := 4) dX6_wayOf_4 rfl ?_
  refine j_ior (pc := 5) dX6_wayOf_5 ?_
  refine j_ireturn (pc := 6) dX6_wayOf_6 rfl ?_
  exact ⟨rfl, rfl⟩

set_option maxRecDepth 20000 in
set_option maxHeartbeats 1000000 in
theorem c_fourOf {a : Int32} : CD g 0 mX6_fourOf [.int a] h (some (.int (a >>> (6 &&& 31)))) h := by
  refine C.of (by decide +kernel) (by simp [Value.category]) (Nat.le_of_ble_eq_true rfl) ?_
  change J g mX6_fourOf 0 0 0 _ h 0 [some (.int a)] []
  refine j_iload_n (pc := 0) dX6_fourOf_0 rfl ?_
  refine j_bipush (pc := 1) dX6_fourOf_1 kb_6 ?_
  refine j_ishr (pc := 3) dX6_fourOf_3 ?_
  refine j_ireturn (pc := 4) dX6_fourOf_4 rfl ?_
  exact ⟨rfl, rfl⟩

set_option maxRecDepth 20000 in
set_option maxHeartbeats 1000000 in
theorem c_leftOf {a : Int32} : CD g 1 mX6_leftOf [.int a] h (some (.int (a &&& allI 6))) h := by
  refine C.of (by decide +kernel) (by simp [Value.category]) (Nat.le_of_ble_eq_true rfl) ?_
  change J g mX6_leftOf 1 0 0 _ h 0 [some (.int a)] []
  refine j_iload_n (pc := 0) dX6_leftOf_0 rfl ?_
  refine j_bipush (pc := 1) dX6_leftOf_1 kb_6 ?_
  refine j_s1 (pc := 3) dX6_leftOf_3 mc_X6_allOf ml_X6_195 sm_X6_allOf (by omega) (c_allOf) (Nat.le_of_ble_eq_true rfl) ?_
  refine j_iand (pc := 6) dX6_leftOf_6 ?_
  refine j_ireturn (pc := 7) dX6_leftOf_7 rfl ?_
  exact ⟨rfl, rfl⟩

set_option maxRecDepth 20000 in
set_option maxHeartbeats 1000000 in
theorem c_loadBy {a b : Int32} : CD g 1 mX6_loadBy [.int a, .int b] h (some (.int (imax 0 (a + b)))) h := by
  refine C.of (by decide +kernel) (by simp [Value.category]) (Nat.le_of_ble_eq_true rfl) ?_
  change J g mX6_loadBy 1 0 0 _ h 0 [some (.int a), some (.int b)] []
  refine j_iconst (pc := 0) dX6_loadBy_0 kc_0 ?_
  refine j_iload_n (pc := 1) dX6_loadBy_1 rfl ?_
  refine j_iload_n (pc := 2) dX6_loadBy_2 rfl ?_
  refine j_iadd (pc := 3) dX6_loadBy_3 ?_
  refine j_max (pc := 4) dX6_loadBy_4 ml_X6_217 (by omega) (Nat.le_of_ble_eq_true rfl) ?_
  refine j_ireturn (pc := 7) dX6_loadBy_7 rfl ?_
  exact ⟨rfl, rfl⟩

def powI (b : Int32) (m k : Nat) (a : Int32) : Int32 := iter (fun _ a => a * b) m k a
set_option maxRecDepth 20000 in
set_option maxHeartbeats 1000000 in
theorem l_power {b : Int32} {n : Nat} (hn : n < 2 ^ 31) : ∀ (m k : Nat) (a : Int32), k + m = n → J g mX6_power 0 0 0 (fun r h' => r = some (.int (powI b m k a)) ∧ h' = h) h 4 [some (.int b), some (.int (nI n)), some (.int a), some (.int (nI k))] [] := by
  intro m
  induction m with
  | zero =>
    intro k a hk
    refine j_iload_n (pc := 4) dX6_power_4 rfl ?_
    refine j_iload_n (pc := 5) dX6_power_5 rfl ?_
    refine j_icmp_ge (pc := 6) (tgt := 19) dX6_power_6 rfl (fun _ => ?_) (fun zc6 => absurd (nI_le (a := n) (b := k) (by omega) (by omega)) zc6)
    refine j_iload_n (pc := 19) dX6_power_19 rfl ?_
    refine j_ireturn (pc := 20) dX6_power_20 rfl ?_
    exact ⟨rfl, rfl⟩
  | succ m ih =>
    intro k a hk
    refine j_iload_n (pc := 4) dX6_power_4 rfl ?_
    refine j_iload_n (pc := 5) dX6_power_5 rfl ?_
    refine j_icmp_ge (pc := 6) (tgt := 19) dX6_power_6 rfl (fun zc6 => absurd zc6 (nI_ge (a := k) (b := n) (by omega) (by omega))) (fun _ => ?_)
    refine j_iload_n (pc := 9) dX6_power_9 rfl ?_
    refine j_iload_n (pc := 10) dX6_power_10 rfl ?_
    refine j_imul (pc := 11) dX6_power_11 ?_
    refine j_istore_n (pc := 12) dX6_power_12 rfl (Nat.le_of_ble_eq_true rfl) rfl ?_
    refine j_iinc (pc := 13) dX6_power_13 rfl rfl (Nat.le_of_ble_eq_true rfl) rfl ?_
    refine j_goto (pc := 16) (tgt := 4) dX6_power_16 rfl ?_
    rw [nI_s]
    exact ih (k + 1) (a * b) (by omega)

set_option maxRecDepth 20000 in
set_option maxHeartbeats 1000000 in
theorem c_power {b : Int32} {n : Nat} (hn : n < 2 ^ 31) : CD g 0 mX6_power [.int b, .int (nI n)] h (some (.int (powI b n 0 1))) h := by
  refine C.of (by decide +kernel) (by simp [Value.category]) (Nat.le_of_ble_eq_true rfl) ?_
  change J g mX6_power 0 0 0 _ h 0 [some (.int b), some (.int (nI n)), none, none] []
  refine j_iconst (pc := 0) dX6_power_0 kc_1 ?_
  refine j_istore_n (pc := 1) dX6_power_1 rfl (Nat.le_of_ble_eq_true rfl) rfl ?_
  refine j_iconst (pc := 2) dX6_power_2 kc_0 ?_
  refine j_istore_n (pc := 3) dX6_power_3 rfl (Nat.le_of_ble_eq_true rfl) rfl ?_
  exact l_power hn n 0 1 (by omega)

def rAt (n : Nat) (f : Fn) (i : Int32) : Int32 := if ¬ i < 0 ∧ i < nI n then f i.toNatClampNeg else 0
theorem rAt_in {n k : Nat} {f : Fn} (hk : k < n) (hn : n < 2 ^ 31) : rAt n f (nI k) = f k := by
  unfold rAt
  rw [if_pos ⟨nI_pos (by omega), nI_lt hk hn⟩, nI_clamp (by omega)]
def rPut (n : Nat) (f : Fn) (i x : Int32) : Fn := if ¬ i < 0 ∧ i < nI n then upd f i.toNatClampNeg x else f
theorem rPut_in {n k : Nat} {f : Fn} {x : Int32} (hk : k < n) (hn : n < 2 ^ 31) : rPut n f (nI k) x = upd f k x := by
  unfold rPut
  rw [if_pos ⟨nI_pos (by omega), nI_lt hk hn⟩, nI_clamp (by omega)]
theorem vin_of {i : Int32} {n : Nat} (hn : n < 2 ^ 31) (h0 : ¬ i < 0) (h1 : i < nI n) : vp_in i n := by
  intro q
  rcases q with q | q
  · exact h0 q
  · have h2 := Int32.lt_iff_toInt_lt.mp h1
    rw [nI_toInt hn] at h2
    have h3 : (i.toNatClampNeg : Int) = i.toInt := by
      have h4 : ¬ i.toInt < 0 := fun z => h0 (Int32.lt_iff_toInt_lt.mpr (by simpa using z))
      show (i.toInt.toNat : Int) = i.toInt
      omega
    omega
theorem set_same {h : List AC} {j : Nat} {c : AC} (hj : h[j]? = some c) : h.set j c = h := by
  apply List.ext_getElem?
  intro k
  by_cases e : k = j
  · subst e
    rw [List.getElem?_set_self (List.getElem?_eq_some_iff.mp hj).1, hj]
  · rw [List.getElem?_set_ne (Ne.symm e)]
set_option maxRecDepth 20000 in
set_option maxHeartbeats 1000000 in
theorem c_at {k j n : Nat} {f : Fn} {i : Int32} (hn : n < 2 ^ 31) (hk : h[k]? = some (3, [.ref j])) (hj : h[j]? = some (8, iv n f)) : CD g 0 mX3_at [.ref k, .int i] h (some (.int (rAt n f i))) h := by
  refine C.of (by decide +kernel) (by simp [Value.category]) (Nat.le_of_ble_eq_true rfl) ?_
  change J g mX3_at 0 0 0 _ h 0 [some (.ref k), some (.int i)] []
  refine j_iload_n (pc := 0) dX3_at_0 rfl ?_
  refine j_if_lt (pc := 1) (tgt := 22) dX3_at_1 rfl (fun zc1 => ?_) (fun zc1 => ?_)
  · refine j_iconst (pc := 22) dX3_at_22 kc_0 ?_
    refine j_ireturn (pc := 23) dX3_at_23 rfl ?_
    refine ⟨?_, rfl⟩
    first | (rw [rAt, if_neg (fun z => z.1 zc1)]; done) | (rw [rAt, if_neg (fun z => Int32.not_lt.mpr zc10 z.2)]; done) | rw [rAt, if_pos ⟨zc1, Int32.not_le.mp zc10⟩]
  · refine j_iload_n (pc := 4) dX3_at_4 rfl ?_
    refine j_aload_n (pc := 5) dX3_at_5 rfl ?_
    refine j_getf (pc := 6) dX3_at_6 fl_X3_15 (by assumption) rfl ?_
    refine j_alen (pc := 9) dX3_at_9 (by assumption) rfl (by rw [iv_len]) ?_
    refine j_icmp_ge (pc := 10) (tgt := 22) dX3_at_10 rfl (fun zc10 => ?_) (fun zc10 => ?_)
    · refine j_iconst (pc := 22) dX3_at_22 kc_0 ?_
      refine j_ireturn (pc := 23) dX3_at_23 rfl ?_
      refine ⟨?_, rfl⟩
      first | (rw [rAt, if_neg (fun z => z.1 zc1)]; done) | (rw [rAt, if_neg (fun z => Int32.not_lt.mpr zc10 z.2)]; done) | rw [rAt, if_pos ⟨zc1, Int32.not_le.mp zc10⟩]
    · refine j_aload_n (pc := 13) dX3_at_13 rfl ?_
      refine j_getf (pc := 14) dX3_at_14 fl_X3_15 (by assumption) rfl ?_
      refine j_iload_n (pc := 17) dX3_at_17 rfl ?_
      refine j_iald (pc := 18) dX3_at_18 (by assumption) rfl (vin_of hn zc1 (Int32.not_le.mp zc10)) ?_
      refine j_goto (pc := 19) (tgt := 23) dX3_at_19 rfl ?_
      refine j_ireturn (pc := 23) dX3_at_23 rfl ?_
      refine ⟨?_, rfl⟩
      first | (rw [rAt, if_neg (fun z => z.1 zc1)]; done) | (rw [rAt, if_neg (fun z => Int32.not_lt.mpr zc10 z.2)]; done) | rw [rAt, if_pos ⟨zc1, Int32.not_le.mp zc10⟩]

set_option maxRecDepth 20000 in
set_option maxHeartbeats 1000000 in
theorem c_put {k j n : Nat} {f : Fn} {i x : Int32} (hn : n < 2 ^ 31) (hk : h[k]? = some (3, [.ref j])) (hj : h[j]? = some (8, iv n f)) : CD g 0 mX3_put [.ref k, .int i, .int x] h none (h.set j (8, iv n (rPut n f i x))) := by
  refine C.of (by decide +kernel) (by simp [Value.category]) (Nat.le_of_ble_eq_true rfl) ?_
  change J g mX3_put 0 0 0 _ h 0 [some (.ref k), some (.int i), some (.int x)] []
  refine j_iload_n (pc := 0) dX3_put_0 rfl ?_
  refine j_if_lt (pc := 1) (tgt := 20) dX3_put_1 rfl (fun zc1 => ?_) (fun zc1 => ?_)
  · refine j_return (pc := 20) dX3_put_20 rfl ?_
    refine ⟨rfl, ?_⟩
    first | (rw [rPut, if_neg (fun z => z.1 zc1), set_same hj]; done) | (rw [rPut, if_neg (fun z => Int32.not_lt.mpr zc10 z.2), set_same hj]; done) | rw [rPut, if_pos ⟨zc1, Int32.not_le.mp zc10⟩]
  · refine j_iload_n (pc := 4) dX3_put_4 rfl ?_
    refine j_aload_n (pc := 5) dX3_put_5 rfl ?_
    refine j_getf (pc := 6) dX3_put_6 fl_X3_15 (by assumption) rfl ?_
    refine j_alen (pc := 9) dX3_put_9 (by assumption) rfl (by rw [iv_len]) ?_
    refine j_icmp_ge (pc := 10) (tgt := 20) dX3_put_10 rfl (fun zc10 => ?_) (fun zc10 => ?_)
    · refine j_return (pc := 20) dX3_put_20 rfl ?_
      refine ⟨rfl, ?_⟩
      first | (rw [rPut, if_neg (fun z => z.1 zc1), set_same hj]; done) | (rw [rPut, if_neg (fun z => Int32.not_lt.mpr zc10 z.2), set_same hj]; done) | rw [rPut, if_pos ⟨zc1, Int32.not_le.mp zc10⟩]
    · refine j_aload_n (pc := 13) dX3_put_13 rfl ?_
      refine j_getf (pc := 14) dX3_put_14 fl_X3_15 (by assumption) rfl ?_
      refine j_iload_n (pc := 17) dX3_put_17 rfl ?_
      refine j_iload_n (pc := 18) dX3_put_18 rfl ?_
      refine j_iast (pc := 19) dX3_put_19 (by assumption) (vin_of hn zc1 (Int32.not_le.mp zc10)) rfl ?_
      refine j_return (pc := 20) dX3_put_20 rfl ?_
      refine ⟨rfl, ?_⟩
      first | (rw [rPut, if_neg (fun z => z.1 zc1), set_same hj]; done) | (rw [rPut, if_neg (fun z => Int32.not_lt.mpr zc10 z.2), set_same hj]; done) | rw [rPut, if_pos ⟨zc1, Int32.not_le.mp zc10⟩]

def sumStep (f : Fn) (s : Int32) (k : Nat) (a : Int32) : Int32 := if tbit s (nI k) then a + f k else a
def sumI (f : Fn) (s : Int32) (m k : Nat) (a : Int32) : Int32 := iter (sumStep f s) m k a
theorem get_ne {h : List AC} {k j : Nat} {c c2 x : AC} (hk : h[k]? = some c) (hj : h[j]? = some c2) (hn : c.1 ≠ c2.1) : (h.set j x)[k]? = some c := by
  have e : ¬ j = k := fun q => hn (by rw [q, hk] at hj; cases hj; rfl)
  rw [List.getElem?_set_ne e]
  exact hk
theorem get_ne2 {h : List AC} {k j : Nat} {c x : AC} (hk : h[k]? = some c) (e : ¬ j = k) : (h.set j x)[k]? = some c := by
  rw [List.getElem?_set_ne e]
  exact hk
theorem get_eq {h : List AC} {j : Nat} {c x : AC} (hj : h[j]? = some c) : (h.set j x)[j]? = some x := List.getElem?_set_self (List.getElem?_eq_some_iff.mp hj).1
theorem iv_congr {n : Nat} {f f2 : Fn} (he : ∀ i, i < n → f i = f2 i) : iv n f = iv n f2 := by
  apply List.ext_getElem?
  intro k
  by_cases hk : k < n
  · rw [iv_at _ hk, iv_at _ hk, he k hk]
  · rw [List.getElem?_eq_none (by rw [iv_len]; omega), List.getElem?_eq_none (by rw [iv_len]; omega)]
set_option maxRecDepth 20000 in
set_option maxHeartbeats 1000000 in
theorem l_sumOf {k j : Nat} {f : Fn} {s : Int32} (hk : h[k]? = some (3, [.ref j])) (hj : h[j]? = some (8, iv 6 f)) : ∀ (m i : Nat) (a : Int32), i + m = 6 → J g mX3_sumOf 1 0 0 (fun r h' => r = some (.int (sumI f s m i a)) ∧ h' = h) h 4 [some (.ref k), some (.int s), some (.int a), some (.int (nI i))] [] := by
  intro m
  induction m with
  | zero =>
    intro i a hi
    refine j_iload_n (pc := 4) dX3_sumOf_4 rfl ?_
    refine j_bipush (pc := 5) dX3_sumOf_5 kb_6 ?_
    refine j_icmp_ge (pc := 7) (tgt := 42) dX3_sumOf_7 rfl (fun _ => ?_) (fun zc7 => absurd (nI_le (a := 6) (b := i) (by omega) (by omega)) zc7)
    refine j_iload_n (pc := 42) dX3_sumOf_42 rfl ?_
    refine j_ireturn (pc := 43) dX3_sumOf_43 rfl ?_
    exact ⟨rfl, rfl⟩
  | succ m ih =>
    intro i a hi
    refine j_iload_n (pc := 4) dX3_sumOf_4 rfl ?_
    refine j_bipush (pc := 5) dX3_sumOf_5 kb_6 ?_
    refine j_icmp_ge (pc := 7) (tgt := 42) dX3_sumOf_7 rfl (fun zc7 => absurd zc7 (nI_ge (a := i) (b := 6) (by omega) (by omega))) (fun _ => ?_)
    refine j_iload_n (pc := 10) dX3_sumOf_10 rfl ?_
    refine j_aload_n (pc := 11) dX3_sumOf_11 rfl ?_
    refine j_getf (pc := 12) dX3_sumOf_12 fl_X3_15 (by assumption) rfl ?_
    refine j_alen (pc := 15) dX3_sumOf_15 (by assumption) rfl (by rw [iv_len]) ?_
    refine j_icmp_ge (pc := 16) (tgt := 42) dX3_sumOf_16 rfl (fun zc16 => absurd zc16 (nI_ge (a := i) (b := 6) (by omega) (by omega))) (fun _ => ?_)
    refine j_iload_n (pc := 19) dX3_sumOf_19 rfl ?_
    refine j_iload_n (pc := 20) dX3_sumOf_20 rfl ?_
    refine j_ns2 (pc := 21) dX3_sumOf_21 mc_X6_isIn nk_X3_21 sm_X6_isIn (by omega) (c_isIn) (Nat.le_of_ble_eq_true rfl) ?_
    refine j_beq (pc := 24) (tgt := 36) dX3_sumOf_24 rfl (fun zc24 => ?_) (fun zc24 => ?_)
    · refine j_iinc (pc := 36) dX3_sumOf_36 rfl rfl (Nat.le_of_ble_eq_true rfl) rfl ?_
      refine j_goto (pc := 39) (tgt := 4) dX3_sumOf_39 rfl ?_
      rw [nI_s]
      first
        | (rw [show sumI f s (m + 1) i a = sumI f s m (i + 1) (a + f i) by simp [sumI, iter, sumStep, *]]
           exact ih (i + 1) (a + f i) (by omega))
        | (rw [show sumI f s (m + 1) i a = sumI f s m (i + 1) a by simp [sumI, iter, sumStep, *]]
           exact ih (i + 1) a (by omega))
    · refine j_iload_n (pc := 27) dX3_sumOf_27 rfl ?_
      refine j_aload_n (pc := 28) dX3_sumOf_28 rfl ?_
      refine j_getf (pc := 29) dX3_sumOf_29 fl_X3_15 (by assumption) rfl ?_
      refine j_iload_n (pc := 32) dX3_sumOf_32 rfl ?_
      refine j_ialdE (pc := 33) dX3_sumOf_33 (by assumption) rfl rfl (by omega) (by omega) ?_
      refine j_iadd (pc := 34) dX3_sumOf_34 ?_
      refine j_istore_n (pc := 35) dX3_sumOf_35 rfl (Nat.le_of_ble_eq_true rfl) rfl ?_
      refine j_iinc (pc := 36) dX3_sumOf_36 rfl rfl (Nat.le_of_ble_eq_true rfl) rfl ?_
      refine j_goto (pc := 39) (tgt := 4) dX3_sumOf_39 rfl ?_
      rw [nI_s]
      first
        | (rw [show sumI f s (m + 1) i a = sumI f s m (i + 1) (a + f i) by simp [sumI, iter, sumStep, *]]
           exact ih (i + 1) (a + f i) (by omega))
        | (rw [show sumI f s (m + 1) i a = sumI f s m (i + 1) a by simp [sumI, iter, sumStep, *]]
           exact ih (i + 1) a (by omega))

set_option maxRecDepth 20000 in
set_option maxHeartbeats 1000000 in
theorem c_sumOf {k j : Nat} {f : Fn} {s : Int32} (hk : h[k]? = some (3, [.ref j])) (hj : h[j]? = some (8, iv 6 f)) : CD g 1 mX3_sumOf [.ref k, .int s] h (some (.int (sumI f s 6 0 0))) h := by
  refine C.of (by decide +kernel) (by simp [Value.category]) (Nat.le_of_ble_eq_true rfl) ?_
  change J g mX3_sumOf 1 0 0 _ h 0 [some (.ref k), some (.int s), none, none] []
  refine j_iconst (pc := 0) dX3_sumOf_0 kc_0 ?_
  refine j_istore_n (pc := 1) dX3_sumOf_1 rfl (Nat.le_of_ble_eq_true rfl) rfl ?_
  refine j_iconst (pc := 2) dX3_sumOf_2 kc_0 ?_
  refine j_istore_n (pc := 3) dX3_sumOf_3 rfl (Nat.le_of_ble_eq_true rfl) rfl ?_
  exact l_sumOf hk hj 6 0 0 rfl

set_option maxRecDepth 20000 in
set_option maxHeartbeats 1000000 in
theorem l_fill {k j n : Nat} {x : Int32} (hn : n < 2 ^ 31) : ∀ (m i : Nat) (f : Fn) (h : List AC), i + m = n → (∀ l, l < i → f l = x) → h[k]? = some (3, [.ref j]) → h[j]? = some (8, iv n f) → J g mX3_fill 0 0 0 (fun r h' => r = none ∧ h' = h.set j (8, iv n (fun _ => x))) h 2 [some (.ref k), some (.int x), some (.int (nI i))] [] := by
  intro m
  induction m with
  | zero =>
    intro i f h hi hf hk hj
    refine j_iload_n (pc := 2) dX3_fill_2 rfl ?_
    refine j_aload_n (pc := 3) dX3_fill_3 rfl ?_
    refine j_getf (pc := 4) dX3_fill_4 fl_X3_15 (by assumption) rfl ?_
    refine j_alen (pc := 7) dX3_fill_7 (by assumption) rfl (by rw [iv_len]) ?_
    refine j_icmp_ge (pc := 8) (tgt := 24) dX3_fill_8 rfl (fun _ => ?_) (fun zc8 => absurd (nI_le (a := n) (b := i) (by omega) (by omega)) zc8)
    refine j_return (pc := 24) dX3_fill_24 rfl ?_
    refine ⟨rfl, ?_⟩
    rw [← iv_congr (f := f) (fun l hl => hf l (by omega)), set_same hj]
  | succ m ih =>
    intro i f h hi hf hk hj
    refine j_iload_n (pc := 2) dX3_fill_2 rfl ?_
    refine j_aload_n (pc := 3) dX3_fill_3 rfl ?_
    refine j_getf (pc := 4) dX3_fill_4 fl_X3_15 (by assumption) rfl ?_
    refine j_alen (pc := 7) dX3_fill_7 (by assumption) rfl (by rw [iv_len]) ?_
    refine j_icmp_ge (pc := 8) (tgt := 24) dX3_fill_8 rfl (fun zc8 => absurd zc8 (nI_ge (a := i) (b := n) (by omega) (by omega))) (fun _ => ?_)
    refine j_aload_n (pc := 11) dX3_fill_11 rfl ?_
    refine j_getf (pc := 12) dX3_fill_12 fl_X3_15 (by assumption) rfl ?_
    refine j_iload_n (pc := 15) dX3_fill_15 rfl ?_
    refine j_iload_n (pc := 16) dX3_fill_16 rfl ?_
    refine j_iastE (pc := 17) dX3_fill_17 (by assumption) rfl (by omega) (by omega) rfl ?_
    refine j_iinc (pc := 18) dX3_fill_18 rfl rfl (Nat.le_of_ble_eq_true rfl) rfl ?_
    refine j_goto (pc := 21) (tgt := 2) dX3_fill_21 rfl ?_
    rw [nI_s]
    have z := ih (i + 1) (upd f i x) (h.set j (8, iv n (upd f i x))) (by omega) (fun l hl => by
      by_cases e : l = i
      · simp [upd, e]
      · simp [upd, e, hf l (by omega)]) (get_ne hk hj (show (3 : Nat) ≠ 8 by decide)) (get_eq hj)
    rw [List.set_set] at z
    exact z

set_option maxRecDepth 20000 in
set_option maxHeartbeats 1000000 in
theorem c_fill {k j n : Nat} {f : Fn} {x : Int32} (hn : n < 2 ^ 31) (hk : h[k]? = some (3, [.ref j])) (hj : h[j]? = some (8, iv n f)) : CD g 0 mX3_fill [.ref k, .int x] h none (h.set j (8, iv n (fun _ => x))) := by
  refine C.of (by decide +kernel) (by simp [Value.category]) (Nat.le_of_ble_eq_true rfl) ?_
  change J g mX3_fill 0 0 0 _ h 0 [some (.ref k), some (.int x), none] []
  refine j_iconst (pc := 0) dX3_fill_0 kc_0 ?_
  refine j_istore_n (pc := 1) dX3_fill_1 rfl (Nat.le_of_ble_eq_true rfl) rfl ?_
  exact l_fill hn n 0 f h (by omega) (fun l hl => absurd hl (Nat.not_lt_zero l)) hk hj

set_option maxRecDepth 20000 in
set_option maxHeartbeats 1000000 in
theorem l_copyR {k j n k2 j2 : Nat} {f2 : Fn} (hn : n < 2 ^ 31) (hne : ¬ j = j2) : ∀ (m i : Nat) (f : Fn) (h : List AC), i + m = n → (∀ l, l < i → f l = f2 l) → h[k]? = some (3, [.ref j]) → h[j]? = some (8, iv n f) → h[k2]? = some (3, [.ref j2]) → h[j2]? = some (8, iv n f2) → J g mX3_copyFrom 1 0 0 (fun r h' => r = none ∧ h' = h.set j (8, iv n f2)) h 2 [some (.ref k), some (.ref k2), some (.int (nI i))] [] := by
  intro m
  induction m with
  | zero =>
    intro i f h hi hf hk hj hk2 hj2
    refine j_iload_n (pc := 2) dX3_copyFrom_2 rfl ?_
    refine j_aload_n (pc := 3) dX3_copyFrom_3 rfl ?_
    refine j_getf (pc := 4) dX3_copyFrom_4 fl_X3_15 (by assumption) rfl ?_
    refine j_alen (pc := 7) dX3_copyFrom_7 (by assumption) rfl (by rw [iv_len]) ?_
    refine j_icmp_ge (pc := 8) (tgt := 28) dX3_copyFrom_8 rfl (fun _ => ?_) (fun zc8 => absurd (nI_le (a := n) (b := i) (by omega) (by omega)) zc8)
    refine j_return (pc := 28) dX3_copyFrom_28 rfl ?_
    refine ⟨rfl, ?_⟩
    rw [← iv_congr (f := f) (fun l hl => hf l (by omega)), set_same hj]
  | succ m ih =>
    intro i f h hi hf hk hj hk2 hj2
    refine j_iload_n (pc := 2) dX3_copyFrom_2 rfl ?_
    refine j_aload_n (pc := 3) dX3_copyFrom_3 rfl ?_
    refine j_getf (pc := 4) dX3_copyFrom_4 fl_X3_15 (by assumption) rfl ?_
    refine j_alen (pc := 7) dX3_copyFrom_7 (by assumption) rfl (by rw [iv_len]) ?_
    refine j_icmp_ge (pc := 8) (tgt := 28) dX3_copyFrom_8 rfl (fun zc8 => absurd zc8 (nI_ge (a := i) (b := n) (by omega) (by omega))) (fun _ => ?_)
    refine j_aload_n (pc := 11) dX3_copyFrom_11 rfl ?_
    refine j_getf (pc := 12) dX3_copyFrom_12 fl_X3_15 (by assumption) rfl ?_
    refine j_iload_n (pc := 15) dX3_copyFrom_15 rfl ?_
    refine j_aload_n (pc := 16) dX3_copyFrom_16 rfl ?_
    refine j_iload_n (pc := 17) dX3_copyFrom_17 rfl ?_
    refine j_v1 (pc := 18) (ci := 3) dX3_copyFrom_18 mc_X3_at ml_X3_25 im_X3_at se_X3_at rfl rfl (by assumption) (by omega) (c_at hn (by assumption) (by assumption)) (Nat.le_of_ble_eq_true rfl) ?_
    rw [rAt_in (show i < n by omega) hn]
    refine j_iastE (pc := 21) dX3_copyFrom_21 (by assumption) rfl (by omega) (by omega) rfl ?_
    refine j_iinc (pc := 22) dX3_copyFrom_22 rfl rfl (Nat.le_of_ble_eq_true rfl) rfl ?_
    refine j_goto (pc := 25) (tgt := 2) dX3_copyFrom_25 rfl ?_
    rw [nI_s]
    have z := ih (i + 1) (upd f i (f2 i)) (h.set j (8, iv n (upd f i (f2 i)))) (by omega) (fun l hl => by
      by_cases e : l = i
      · simp [upd, e]
      · simp [upd, e, hf l (by omega)]) (get_ne hk hj (show (3 : Nat) ≠ 8 by decide)) (get_eq hj) (get_ne hk2 hj (show (3 : Nat) ≠ 8 by decide)) (get_ne2 hj2 hne)
    rw [List.set_set] at z
    exact z

set_option maxRecDepth 20000 in
set_option maxHeartbeats 1000000 in
theorem c_copyR {k j n k2 j2 : Nat} {f f2 : Fn} (hn : n < 2 ^ 31) (hk : h[k]? = some (3, [.ref j])) (hj : h[j]? = some (8, iv n f)) (hk2 : h[k2]? = some (3, [.ref j2])) (hj2 : h[j2]? = some (8, iv n f2)) (hne : ¬ j = j2) : CD g 1 mX3_copyFrom [.ref k, .ref k2] h none (h.set j (8, iv n f2)) := by
  refine C.of (by decide +kernel) (by simp [Value.category]) (Nat.le_of_ble_eq_true rfl) ?_
  change J g mX3_copyFrom 1 0 0 _ h 0 [some (.ref k), some (.ref k2), none] []
  refine j_iconst (pc := 0) dX3_copyFrom_0 kc_0 ?_
  refine j_istore_n (pc := 1) dX3_copyFrom_1 rfl (Nat.le_of_ble_eq_true rfl) rfl ?_
  exact l_copyR hn hne n 0 f h (by omega) (fun l hl => absurd hl (Nat.not_lt_zero l)) hk hj hk2 hj2

theorem imax_nI {n : Nat} (h : n < 2 ^ 31) : imax 0 (nI n) = nI n := by
  unfold imax
  by_cases e : n = 0
  · subst e
    rfl
  · rw [if_pos (show (0 : Int32) < nI n from nI_lt (a := 0) (by omega) h)]
theorem ap_get {l1 l2 : List AC} {k : Nat} {c : AC} (hk : l1[k]? = some c) : (l1 ++ l2)[k]? = some c := by
  rw [List.getElem?_append_left (List.getElem?_eq_some_iff.mp hk).1]
  exact hk
theorem jdef_X3 : jdef 3 [.null] := fun q hq => by
  cases hq
  refine ⟨rfl, fun k hk => ?_⟩
  have : k = 0 := by have : k < 1 := hk; omega
  subst this
  exact ⟨.array .int, by decide +kernel, _, rfl, rfl, fun _ => rfl⟩
set_option maxRecDepth 20000 in
set_option maxHeartbeats 1000000 in
theorem c_rowInit {k n : Nat} (hn : n < 1000) (hk : h[k]? = some (3, [.null])) : C g 1 1 n mX3_init [.ref k, .int (nI n)] h (fun r h' => r = none ∧ h' = (h ++ [(8, iv n (fun _ => 0))]).set k (3, [.ref h.length])) := by
  refine C.of (by decide +kernel) (by simp [Value.category]) (Nat.le_of_ble_eq_true rfl) ?_
  change J g mX3_init 1 1 n _ h 0 [some (.ref k), some (.int (nI n))] []
  refine j_aload_n (pc := 0) dX3_init_0 rfl ?_
  refine j_objinit (pc := 1) dX3_init_1 ol_X3_3 ol_im ol_co (by omega) (Nat.le_of_ble_eq_true rfl) ?_
  refine j_aload_n (pc := 4) dX3_init_4 rfl ?_
  refine j_iconst (pc := 5) dX3_init_5 kc_0 ?_
  refine j_iload_n (pc := 6) dX3_init_6 rfl ?_
  refine j_max (pc := 7) dX3_init_7 ml_X3_9 (by omega) (Nat.le_of_ble_eq_true rfl) ?_
  refine j_newarr (pc := 10) dX3_init_10 rfl (t := 8) (N := n) rfl (by decide) ac_int (by rw [imax_nI (by omega)]; exact nI_pos (by omega)) (by rw [imax_nI (by omega), nI_clamp (by omega)]) (by show n * 4 ≤ _; omega) (iv_len n (fun _ => 0)) (fun j v hv => by rw [(iv_in hv).2]; rfl) rfl (Nat.zero_add n).symm ?_
  refine j_putF (pc := 12) dX3_init_12 fl_X3_15 rfl (fun q e => by cases e; rfl) (jfit_a _ _) (ap_get hk) rfl ?_
  refine j_return (pc := 15) dX3_init_15 rfl ?_
  exact ⟨rfl, rfl⟩

end

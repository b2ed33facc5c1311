/-! the heap of the class and of the reference, cell by cell (written by wip/whole/gen11.py) -/
/-- a scene: needle, thumb, rust; flowers, sins, chalk -/
abbrev ScV : Type := Int32 × Int32 × Int32 × Fn × Fn × Fn
/-- a parish: items, deeds, dead, bearers, pin, rust; weights, boxes, flowers, sins, strengths -/
abbrev ParV : Type := Int32 × Int32 × Int32 × Int32 × Int32 × Int32 × Fn × Fn × Fn × Fn × Fn
/-- a reader: length, start, behind, token, value; wrong, pinTold, rustTold -/
abbrev RdV : Type := Int32 × Int32 × Int32 × Int32 × Int32 × Bool × Bool × Bool
def pa : Bool → Nat
  | false => 5
  | true => 16
def pd : Bool → Nat
  | false => 16
  | true => 5
def ia (n : Nat) (f : Fn) : AC := (8, iv n f)
def rowC (a : Nat) : AC := (3, [.ref (a + 1)])
def scC (a : Nat) (v : ScV) : AC := (4, [.int v.1, .int v.2.1, .int v.2.2.1, .ref (a + 1), .ref (a + 3), .ref (a + 5)])
def scL (a : Nat) (v : ScV) : List AC := [scC a v, rowC (a + 1), ia 6 v.2.2.2.1, rowC (a + 3), ia 6 v.2.2.2.2.1, rowC (a + 5), ia 6 v.2.2.2.2.2]
def paC (a : Nat) (v : ParV) : AC := (1, [.int v.1, .int v.2.1, .int v.2.2.1, .int v.2.2.2.1, .int v.2.2.2.2.1, .int v.2.2.2.2.2.1, .ref (a + 1), .ref (a + 3), .ref (a + 5), .ref (a + 7), .ref (a + 9)])
def paL (a : Nat) (v : ParV) : List AC := [paC a v, rowC (a + 1), ia 6 v.2.2.2.2.2.2.1, rowC (a + 3), ia 6 v.2.2.2.2.2.2.2.1, rowC (a + 5), ia 6 v.2.2.2.2.2.2.2.2.1, rowC (a + 7), ia 6 v.2.2.2.2.2.2.2.2.2.1, rowC (a + 9), ia 6 v.2.2.2.2.2.2.2.2.2.2]
def rdC (r : RdV) : AC := (2, [.ref 2, .int r.1, .int r.2.1, .int r.2.2.1, .int r.2.2.2.1, .int r.2.2.2.2.1, .int (b2i r.2.2.2.2.2.1), .int (b2i r.2.2.2.2.2.2.1), .int (b2i r.2.2.2.2.2.2.2)])
def xC (lc : Int32) (sw : Bool) (kept tc : Int32) (ts : Int64) : AC := (6, [.ref 2, .int lc, .ref 4, .ref (pa sw), .ref (pd sw), .ref 27, .ref 34, .ref 107, .ref 109, .int kept, .ref 125, .ref 127, .int tc, .long ts])
def hsC (kk nx : Int32) : AC := (0, [.int kk, .int nx, .ref 35])
def ringC : AC := (10, [.ref 37, .ref 44, .ref 51, .ref 58, .ref 65, .ref 72, .ref 79, .ref 86, .ref 93, .ref 100])
def imC : AC := (10, [.ref 111, .ref 118])
def selP (sw : Bool) (P D : ParV) : ParV := match sw with
  | false => P
  | true => D
def HX (lt : Fn) (lc : Int32) (rd : RdV) (sw : Bool) (P : ParV) (D : ParV) (S : ScV) (kk : Int32) (nx : Int32) (ring : Nat → ScV) (bu : Fn) (im : Nat → ScV) (kept : Int32) (tb : Fn) (tr : Fn) (tc : Int32) (ts : Int64) : List AC :=
  [xC lc sw kept tc ts, rowC 2, ia 150 lt, rdC rd] ++ (paL 5 (selP sw P D) ++ (paL 16 (selP sw D P) ++ (scL 27 S ++ ([hsC kk nx, (5, [.ref 36]), ringC] ++ (
    scL 37 (ring 0) ++ (scL 44 (ring 1) ++ (scL 51 (ring 2) ++ (scL 58 (ring 3) ++ (scL 65 (ring 4) ++ (scL 72 (ring 5) ++ (scL 79 (ring 6) ++ (scL 86 (ring 7) ++ (scL 93 (ring 8) ++ (scL 100 (ring 9) ++ (
    [rowC 107, ia 6 bu, (5, [.ref 110]), imC] ++ (scL 111 (im 0) ++ (scL 118 (im 1) ++ [rowC 125, ia 6 tb, rowC 127, ia 6 tr])))))))))))))))))
def W1 (scr : AC) (tl : List AC) (lt : Fn) (lc : Int32) (rd : RdV) (sw : Bool) (P : ParV) (D : ParV) (S : ScV) (kk : Int32) (nx : Int32) (ring : Nat → ScV) (bu : Fn) (im : Nat → ScV) (kept : Int32) (tb : Fn) (tr : Fn) (tc : Int32) (ts : Int64) : List AC := scr :: (HX lt lc rd sw P D S kk nx ring bu im kept tb tr tc ts ++ tl)
theorem lkE {h : List AC} {a : Nat} {c c2 : AC} (hc : h[a]? = some c) (e : c = c2) : h[a]? = some c2 := by rw [hc, e]
section
variable {scr : AC} {tl : List AC} {lt : Fn} {lc : Int32} {rd : RdV} {sw : Bool} {P : ParV} {D : ParV} {S : ScV} {kk : Int32} {nx : Int32} {ring : Nat → ScV} {bu : Fn} {im : Nat → ScV} {kept : Int32} {tb : Fn} {tr : Fn} {tc : Int32} {ts : Int64}
set_option maxRecDepth 100000 in
theorem lkX_0  : (W1 scr tl lt lc rd sw P D S kk nx ring bu im kept tb tr tc ts)[0]? = some (scr) := rfl
set_option maxRecDepth 100000 in
theorem lkX_1  : (W1 scr tl lt lc rd sw P D S kk nx ring bu im kept tb tr tc ts)[1]? = some (xC lc sw kept tc ts) := rfl
set_option maxRecDepth 100000 in
theorem lkX_2  : (W1 scr tl lt lc rd sw P D S kk nx ring bu im kept tb tr tc ts)[2]? = some (rowC 2) := rfl
set_option maxRecDepth 100000 in
theorem lkX_3  : (W1 scr tl lt lc rd sw P D S kk nx ring bu im kept tb tr tc ts)[2 + 1]? = some (ia 150 lt) := rfl
set_option maxRecDepth 100000 in
theorem lkX_4  : (W1 scr tl lt lc rd sw P D S kk nx ring bu im kept tb tr tc ts)[4]? = some (rdC rd) := rfl
theorem lkX_4e {r1 r2 r3 r4 r5 : Int32} {w1 w2 w3 : Bool} : (W1 scr tl lt lc (r1, r2, r3, r4, r5, w1, w2, w3) sw P D S kk nx ring bu im kept tb tr tc ts)[4]? = some (2, [.ref 2, .int r1, .int r2, .int r3, .int r4, .int r5, .int (b2i w1), .int (b2i w2), .int (b2i w3)]) := rfl
set_option maxRecDepth 100000 in
theorem lkX_p  : (W1 scr tl lt lc rd sw P D S kk nx ring bu im kept tb tr tc ts)[pa sw]? = some (paC (pa sw) P) := by cases sw <;> rfl
set_option maxRecDepth 100000 in
theorem lkX_p1  : (W1 scr tl lt lc rd sw P D S kk nx ring bu im kept tb tr tc ts)[pa sw + 1]? = some (rowC (pa sw + 1)) := by cases sw <;> rfl
set_option maxRecDepth 100000 in
theorem lkX_p2  : (W1 scr tl lt lc rd sw P D S kk nx ring bu im kept tb tr tc ts)[pa sw + 1 + 1]? = some (ia 6 P.2.2.2.2.2.2.1) := by cases sw <;> rfl
set_option maxRecDepth 100000 in
theorem lkX_p3  : (W1 scr tl lt lc rd sw P D S kk nx ring bu im kept tb tr tc ts)[pa sw + 3]? = some (rowC (pa sw + 3)) := by cases sw <;> rfl
set_option maxRecDepth 100000 in
theorem lkX_p4  : (W1 scr tl lt lc rd sw P D S kk nx ring bu im kept tb tr tc ts)[pa sw + 3 + 1]? = some (ia 6 P.2.2.2.2.2.2.2.1) := by cases sw <;> rfl
set_option maxRecDepth 100000 in
theorem lkX_p5  : (W1 scr tl lt lc rd sw P D S kk nx ring bu im kept tb tr tc ts)[pa sw + 5]? = some (rowC (pa sw + 5)) := by cases sw <;> rfl
set_option maxRecDepth 100000 in
theorem lkX_p6  : (W1 scr tl lt lc rd sw P D S kk nx ring bu im kept tb tr tc ts)[pa sw + 5 + 1]? = some (ia 6 P.2.2.2.2.2.2.2.2.1) := by cases sw <;> rfl
set_option maxRecDepth 100000 in
theorem lkX_p7  : (W1 scr tl lt lc rd sw P D S kk nx ring bu im kept tb tr tc ts)[pa sw + 7]? = some (rowC (pa sw + 7)) := by cases sw <;> rfl
set_option maxRecDepth 100000 in
theorem lkX_p8  : (W1 scr tl lt lc rd sw P D S kk nx ring bu im kept tb tr tc ts)[pa sw + 7 + 1]? = some (ia 6 P.2.2.2.2.2.2.2.2.2.1) := by cases sw <;> rfl
set_option maxRecDepth 100000 in
theorem lkX_p9  : (W1 scr tl lt lc rd sw P D S kk nx ring bu im kept tb tr tc ts)[pa sw + 9]? = some (rowC (pa sw + 9)) := by cases sw <;> rfl
set_option maxRecDepth 100000 in
theorem lkX_p10  : (W1 scr tl lt lc rd sw P D S kk nx ring bu im kept tb tr tc ts)[pa sw + 9 + 1]? = some (ia 6 P.2.2.2.2.2.2.2.2.2.2) := by cases sw <;> rfl
set_option maxRecDepth 100000 in
theorem lkX_d  : (W1 scr tl lt lc rd sw P D S kk nx ring bu im kept tb tr tc ts)[pd sw]? = some (paC (pd sw) D) := by cases sw <;> rfl
set_option maxRecDepth 100000 in
theorem lkX_d1  : (W1 scr tl lt lc rd sw P D S kk nx ring bu im kept tb tr tc ts)[pd sw + 1]? = some (rowC (pd sw + 1)) := by cases sw <;> rfl
set_option maxRecDepth 100000 in
theorem lkX_d2  : (W1 scr tl lt lc rd sw P D S kk nx ring bu im kept tb tr tc ts)[pd sw + 1 + 1]? = some (ia 6 D.2.2.2.2.2.2.1) := by cases sw <;> rfl
set_option maxRecDepth 100000 in
theorem lkX_d3  : (W1 scr tl lt lc rd sw P D S kk nx ring bu im kept tb tr tc ts)[pd sw + 3]? = some (rowC (pd sw + 3)) := by cases sw <;> rfl
set_option maxRecDepth 100000 in
theorem lkX_d4  : (W1 scr tl lt lc rd sw P D S kk nx ring bu im kept tb tr tc ts)[pd sw + 3 + 1]? = some (ia 6 D.2.2.2.2.2.2.2.1) := by cases sw <;> rfl
set_option maxRecDepth 100000 in
theorem lkX_d5  : (W1 scr tl lt lc rd sw P D S kk nx ring bu im kept tb tr tc ts)[pd sw + 5]? = some (rowC (pd sw + 5)) := by cases sw <;> rfl
set_option maxRecDepth 100000 in
theorem lkX_d6  : (W1 scr tl lt lc rd sw P D S kk nx ring bu im kept tb tr tc ts)[pd sw + 5 + 1]? = some (ia 6 D.2.2.2.2.2.2.2.2.1) := by cases sw <;> rfl
set_option maxRecDepth 100000 in
theorem lkX_d7  : (W1 scr tl lt lc rd sw P D S kk nx ring bu im kept tb tr tc ts)[pd sw + 7]? = some (rowC (pd sw + 7)) := by cases sw <;> rfl
set_option maxRecDepth 100000 in
theorem lkX_d8  : (W1 scr tl lt lc rd sw P D S kk nx ring bu im kept tb tr tc ts)[pd sw + 7 + 1]? = some (ia 6 D.2.2.2.2.2.2.2.2.2.1) := by cases sw <;> rfl
set_option maxRecDepth 100000 in
theorem lkX_d9  : (W1 scr tl lt lc rd sw P D S kk nx ring bu im kept tb tr tc ts)[pd sw + 9]? = some (rowC (pd sw + 9)) := by cases sw <;> rfl
set_option maxRecDepth 100000 in
theorem lkX_d10  : (W1 scr tl lt lc rd sw P D S kk nx ring bu im kept tb tr tc ts)[pd sw + 9 + 1]? = some (ia 6 D.2.2.2.2.2.2.2.2.2.2) := by cases sw <;> rfl
set_option maxRecDepth 100000 in
theorem lkX_27  : (W1 scr tl lt lc rd sw P D S kk nx ring bu im kept tb tr tc ts)[27]? = some (scC 27 S) := rfl
set_option maxRecDepth 100000 in
theorem lkX_28  : (W1 scr tl lt lc rd sw P D S kk nx ring bu im kept tb tr tc ts)[27 + 1]? = some (rowC (27 + 1)) := rfl
set_option maxRecDepth 100000 in
theorem lkX_29  : (W1 scr tl lt lc rd sw P D S kk nx ring bu im kept tb tr tc ts)[27 + 1 + 1]? = some (ia 6 S.2.2.2.1) := rfl
set_option maxRecDepth 100000 in
theorem lkX_30  : (W1 scr tl lt lc rd sw P D S kk nx ring bu im kept tb tr tc ts)[27 + 3]? = some (rowC (27 + 3)) := rfl
set_option maxRecDepth 100000 in
theorem lkX_31  : (W1 scr tl lt lc rd sw P D S kk nx ring bu im kept tb tr tc ts)[27 + 3 + 1]? = some (ia 6 S.2.2.2.2.1) := rfl
set_option maxRecDepth 100000 in
theorem lkX_32  : (W1 scr tl lt lc rd sw P D S kk nx ring bu im kept tb tr tc ts)[27 + 5]? = some (rowC (27 + 5)) := rfl
set_option maxRecDepth 100000 in
theorem lkX_33  : (W1 scr tl lt lc rd sw P D S kk nx ring bu im kept tb tr tc ts)[27 + 5 + 1]? = some (ia 6 S.2.2.2.2.2) := rfl
set_option maxRecDepth 100000 in
theorem lkX_34  : (W1 scr tl lt lc rd sw P D S kk nx ring bu im kept tb tr tc ts)[34]? = some (hsC kk nx) := rfl
set_option maxRecDepth 100000 in
theorem lkX_35  : (W1 scr tl lt lc rd sw P D S kk nx ring bu im kept tb tr tc ts)[35]? = some (5, [.ref 36]) := rfl
set_option maxRecDepth 100000 in
theorem lkX_36  : (W1 scr tl lt lc rd sw P D S kk nx ring bu im kept tb tr tc ts)[36]? = some (ringC) := rfl
set_option maxRecDepth 100000 in
theorem lkX_107  : (W1 scr tl lt lc rd sw P D S kk nx ring bu im kept tb tr tc ts)[107]? = some (rowC 107) := rfl
set_option maxRecDepth 100000 in
theorem lkX_108  : (W1 scr tl lt lc rd sw P D S kk nx ring bu im kept tb tr tc ts)[107 + 1]? = some (ia 6 bu) := rfl
set_option maxRecDepth 100000 in
theorem lkX_109  : (W1 scr tl lt lc rd sw P D S kk nx ring bu im kept tb tr tc ts)[109]? = some (5, [.ref 110]) := rfl
set_option maxRecDepth 100000 in
theorem lkX_110  : (W1 scr tl lt lc rd sw P D S kk nx ring bu im kept tb tr tc ts)[110]? = some (imC) := rfl
set_option maxRecDepth 100000 in
theorem lkX_125  : (W1 scr tl lt lc rd sw P D S kk nx ring bu im kept tb tr tc ts)[125]? = some (rowC 125) := rfl
set_option maxRecDepth 100000 in
theorem lkX_126  : (W1 scr tl lt lc rd sw P D S kk nx ring bu im kept tb tr tc ts)[125 + 1]? = some (ia 6 tb) := rfl
set_option maxRecDepth 100000 in
theorem lkX_127  : (W1 scr tl lt lc rd sw P D S kk nx ring bu im kept tb tr tc ts)[127]? = some (rowC 127) := rfl
set_option maxRecDepth 100000 in
theorem lkX_128  : (W1 scr tl lt lc rd sw P D S kk nx ring bu im kept tb tr tc ts)[127 + 1]? = some (ia 6 tr) := rfl
set_option maxRecDepth 100000 in
theorem upX_1 {lc2 kept2 tc2 : Int32} {ts2 : Int64} : (W1 scr tl lt lc rd sw P D S kk nx ring bu im kept tb tr tc ts).set 1 (xC lc2 sw kept2 tc2 ts2) = (W1 scr tl lt (lc2) rd sw P D S kk nx ring bu im (kept2) tb tr (tc2) (ts2)) := rfl
theorem upX_sw : (W1 scr tl lt lc rd sw P D S kk nx ring bu im kept tb tr tc ts).set 1 (xC lc (!sw) kept tc ts) = (W1 scr tl lt lc rd (!sw) (D) (P) S kk nx ring bu im kept tb tr tc ts) := by cases sw <;> rfl
set_option maxRecDepth 100000 in
theorem upX_3 {lt2 : Fn} : (W1 scr tl lt lc rd sw P D S kk nx ring bu im kept tb tr tc ts).set (2 + 1) (ia 150 lt2) = (W1 scr tl (lt2) lc rd sw P D S kk nx ring bu im kept tb tr tc ts) := rfl
set_option maxRecDepth 100000 in
theorem upX_4 {r1 r2 r3 r4 r5 : Int32} {w1 w2 w3 : Bool} : (W1 scr tl lt lc rd sw P D S kk nx ring bu im kept tb tr tc ts).set 4 (2, [.ref 2, .int r1, .int r2, .int r3, .int r4, .int r5, .int (b2i w1), .int (b2i w2), .int (b2i w3)]) = (W1 scr tl lt lc (r1, r2, r3, r4, r5, w1, w2, w3) sw P D S kk nx ring bu im kept tb tr tc ts) := rfl
set_option maxRecDepth 100000 in
theorem upX_d {i0 i1 i2 i3 i4 i5 : Int32} : (W1 scr tl lt lc rd sw P D S kk nx ring bu im kept tb tr tc ts).set (pd sw) (1, [.int i0, .int i1, .int i2, .int i3, .int i4, .int i5, .ref (pd sw + 1), .ref (pd sw + 3), .ref (pd sw + 5), .ref (pd sw + 7), .ref (pd sw + 9)]) = (W1 scr tl lt lc rd sw P (i0, i1, i2, i3, i4, i5, D.2.2.2.2.2.2.1, D.2.2.2.2.2.2.2.1, D.2.2.2.2.2.2.2.2.1, D.2.2.2.2.2.2.2.2.2.1, D.2.2.2.2.2.2.2.2.2.2) S kk nx ring bu im kept tb tr tc ts) := by cases sw <;> rfl
set_option maxRecDepth 100000 in
theorem upX_d2 {f2 : Fn} : (W1 scr tl lt lc rd sw P D S kk nx ring bu im kept tb tr tc ts).set (pd sw + 1 + 1) (ia 6 f2) = (W1 scr tl lt lc rd sw P (D.1, D.2.1, D.2.2.1, D.2.2.2.1, D.2.2.2.2.1, D.2.2.2.2.2.1, f2, D.2.2.2.2.2.2.2.1, D.2.2.2.2.2.2.2.2.1, D.2.2.2.2.2.2.2.2.2.1, D.2.2.2.2.2.2.2.2.2.2) S kk nx ring bu im kept tb tr tc ts) := by cases sw <;> rfl
set_option maxRecDepth 100000 in
theorem upX_d4 {f2 : Fn} : (W1 scr tl lt lc rd sw P D S kk nx ring bu im kept tb tr tc ts).set (pd sw + 3 + 1) (ia 6 f2) = (W1 scr tl lt lc rd sw P (D.1, D.2.1, D.2.2.1, D.2.2.2.1, D.2.2.2.2.1, D.2.2.2.2.2.1, D.2.2.2.2.2.2.1, f2, D.2.2.2.2.2.2.2.2.1, D.2.2.2.2.2.2.2.2.2.1, D.2.2.2.2.2.2.2.2.2.2) S kk nx ring bu im kept tb tr tc ts) := by cases sw <;> rfl
set_option maxRecDepth 100000 in
theorem upX_d6 {f2 : Fn} : (W1 scr tl lt lc rd sw P D S kk nx ring bu im kept tb tr tc ts).set (pd sw + 5 + 1) (ia 6 f2) = (W1 scr tl lt lc rd sw P (D.1, D.2.1, D.2.2.1, D.2.2.2.1, D.2.2.2.2.1, D.2.2.2.2.2.1, D.2.2.2.2.2.2.1, D.2.2.2.2.2.2.2.1, f2, D.2.2.2.2.2.2.2.2.2.1, D.2.2.2.2.2.2.2.2.2.2) S kk nx ring bu im kept tb tr tc ts) := by cases sw <;> rfl
set_option maxRecDepth 100000 in
theorem upX_d8 {f2 : Fn} : (W1 scr tl lt lc rd sw P D S kk nx ring bu im kept tb tr tc ts).set (pd sw + 7 + 1) (ia 6 f2) = (W1 scr tl lt lc rd sw P (D.1, D.2.1, D.2.2.1, D.2.2.2.1, D.2.2.2.2.1, D.2.2.2.2.2.1, D.2.2.2.2.2.2.1, D.2.2.2.2.2.2.2.1, D.2.2.2.2.2.2.2.2.1, f2, D.2.2.2.2.2.2.2.2.2.2) S kk nx ring bu im kept tb tr tc ts) := by cases sw <;> rfl
set_option maxRecDepth 100000 in
theorem upX_d10 {f2 : Fn} : (W1 scr tl lt lc rd sw P D S kk nx ring bu im kept tb tr tc ts).set (pd sw + 9 + 1) (ia 6 f2) = (W1 scr tl lt lc rd sw P (D.1, D.2.1, D.2.2.1, D.2.2.2.1, D.2.2.2.2.1, D.2.2.2.2.2.1, D.2.2.2.2.2.2.1, D.2.2.2.2.2.2.2.1, D.2.2.2.2.2.2.2.2.1, D.2.2.2.2.2.2.2.2.2.1, f2) S kk nx ring bu im kept tb tr tc ts) := by cases sw <;> rfl
set_option maxRecDepth 100000 in
theorem upX_27 {i0 i1 i2 : Int32} : (W1 scr tl lt lc rd sw P D S kk nx ring bu im kept tb tr tc ts).set 27 (4, [.int i0, .int i1, .int i2, .ref (27 + 1), .ref (27 + 3), .ref (27 + 5)]) = (W1 scr tl lt lc rd sw P D (i0, i1, i2, S.2.2.2.1, S.2.2.2.2.1, S.2.2.2.2.2) kk nx ring bu im kept tb tr tc ts) := rfl
set_option maxRecDepth 100000 in
theorem upX_29 {f2 : Fn} : (W1 scr tl lt lc rd sw P D S kk nx ring bu im kept tb tr tc ts).set (27 + 1 + 1) (ia 6 f2) = (W1 scr tl lt lc rd sw P D (S.1, S.2.1, S.2.2.1, f2, S.2.2.2.2.1, S.2.2.2.2.2) kk nx ring bu im kept tb tr tc ts) := rfl
set_option maxRecDepth 100000 in
theorem upX_31 {f2 : Fn} : (W1 scr tl lt lc rd sw P D S kk nx ring bu im kept tb tr tc ts).set (27 + 3 + 1) (ia 6 f2) = (W1 scr tl lt lc rd sw P D (S.1, S.2.1, S.2.2.1, S.2.2.2.1, f2, S.2.2.2.2.2) kk nx ring bu im kept tb tr tc ts) := rfl
set_option maxRecDepth 100000 in
theorem upX_33 {f2 : Fn} : (W1 scr tl lt lc rd sw P D S kk nx ring bu im kept tb tr tc ts).set (27 + 5 + 1) (ia 6 f2) = (W1 scr tl lt lc rd sw P D (S.1, S.2.1, S.2.2.1, S.2.2.2.1, S.2.2.2.2.1, f2) kk nx ring bu im kept tb tr tc ts) := rfl
set_option maxRecDepth 100000 in
theorem upX_34 {k2 n2 : Int32} : (W1 scr tl lt lc rd sw P D S kk nx ring bu im kept tb tr tc ts).set 34 (hsC k2 n2) = (W1 scr tl lt lc rd sw P D S (k2) (n2) ring bu im kept tb tr tc ts) := rfl
set_option maxRecDepth 100000 in
theorem upX_108 {f2 : Fn} : (W1 scr tl lt lc rd sw P D S kk nx ring bu im kept tb tr tc ts).set (107 + 1) (ia 6 f2) = (W1 scr tl lt lc rd sw P D S kk nx ring (f2) im kept tb tr tc ts) := rfl
set_option maxRecDepth 100000 in
theorem upX_126 {f2 : Fn} : (W1 scr tl lt lc rd sw P D S kk nx ring bu im kept tb tr tc ts).set (125 + 1) (ia 6 f2) = (W1 scr tl lt lc rd sw P D S kk nx ring bu im kept (f2) tr tc ts) := rfl
set_option maxRecDepth 100000 in
theorem upX_128 {f2 : Fn} : (W1 scr tl lt lc rd sw P D S kk nx ring bu im kept tb tr tc ts).set (127 + 1) (ia 6 f2) = (W1 scr tl lt lc rd sw P D S kk nx ring bu im kept tb (f2) tc ts) := rfl
end
def za (n : Nat) (f : Nat → Bool) : AC := (9, zv n f)
def moC (de : Int32) (da : Int32) (be : Int32) (pi : Int32) (ru : Int32) (kn : Int32) (tm : Int32) (tr : Int64) (tn : Int32) (cu : Int32) (sa : Int32) (tk : Int32) (nu : Int32) (wr : Bool) (it : Int32) (sd : Int32) (sdd : Int32) (sb : Int32) (sp : Int32) (sr : Int32) : AC := (7, [.int de, .ref 130, .int da, .ref 131, .int be, .ref 132, .int pi, .int ru, .ref 133, .ref 134, .int kn, .ref 135, .ref 136, .int tm, .ref 137, .long tr, .ref 138, .int tn, .int cu, .int sa, .int tk, .int nu, .int (b2i wr), .int it, .int sd, .ref 139, .int sdd, .ref 140, .ref 141, .ref 142, .int sb, .ref 143, .int sp, .int sr, .ref 144, .ref 145, .ref 146])
def HM (de : Int32) (we : Fn) (da : Int32) (bo : Fn) (be : Int32) (sg : Fn) (pi : Int32) (ru : Int32) (st : Fn) (wa : Fn) (kn : Int32) (im : Fn) (ik : Nat → Bool) (tm : Int32) (to : Fn) (tr : Int64) (tx : Fn) (tn : Int32) (cu : Int32) (sa : Int32) (tk : Int32) (nu : Int32) (wr : Bool) (it : Int32) (sd : Int32) (swt : Fn) (sdd : Int32) (sbx : Fn) (sfl : Fn) (sdi : Fn) (sb : Int32) (sst : Fn) (sp : Int32) (sr : Int32) (nw : Fn) (od : Fn) (bs : Fn) : List AC := [moC de da be pi ru kn tm tr tn cu sa tk nu wr it sd sdd sb sp sr, ia 6 we, ia 6 bo, ia 6 sg, ia 21 st, ia 210 wa, ia 42 im, za 2 ik, ia 12 to, ia 150 tx, ia 6 swt, ia 6 sbx, ia 6 sfl, ia 6 sdi, ia 6 sst, ia 21 nw, ia 6 od, ia 6 bs]
def W2 (pre : List AC) (de : Int32) (we : Fn) (da : Int32) (bo : Fn) (be : Int32) (sg : Fn) (pi : Int32) (ru : Int32) (st : Fn) (wa : Fn) (kn : Int32) (im : Fn) (ik : Nat → Bool) (tm : Int32) (to : Fn) (tr : Int64) (tx : Fn) (tn : Int32) (cu : Int32) (sa : Int32) (tk : Int32) (nu : Int32) (wr : Bool) (it : Int32) (sd : Int32) (swt : Fn) (sdd : Int32) (sbx : Fn) (sfl : Fn) (sdi : Fn) (sb : Int32) (sst : Fn) (sp : Int32) (sr : Int32) (nw : Fn) (od : Fn) (bs : Fn) : List AC := pre ++ HM de we da bo be sg pi ru st wa kn im ik tm to tr tx tn cu sa tk nu wr it sd swt sdd sbx sfl sdi sb sst sp sr nw od bs
section
variable {pre : List AC} {de : Int32} {we : Fn} {da : Int32} {bo : Fn} {be : Int32} {sg : Fn} {pi : Int32} {ru : Int32} {st : Fn} {wa : Fn} {kn : Int32} {im : Fn} {ik : Nat → Bool} {tm : Int32} {to : Fn} {tr : Int64} {tx : Fn} {tn : Int32} {cu : Int32} {sa : Int32} {tk : Int32} {nu : Int32} {wr : Bool} {it : Int32} {sd : Int32} {swt : Fn} {sdd : Int32} {sbx : Fn} {sfl : Fn} {sdi : Fn} {sb : Int32} {sst : Fn} {sp : Int32} {sr : Int32} {nw : Fn} {od : Fn} {bs : Fn}
theorem ap_at {pre l : List AC} (hp : pre.length = 129) (k : Nat) : (pre ++ l)[129 + k]? = l[k]? := by rw [List.getElem?_append_right (by omega), hp, Nat.add_sub_cancel_left]
theorem ap_set {pre l : List AC} (hp : pre.length = 129) (k : Nat) (c : AC) : (pre ++ l).set (129 + k) c = pre ++ l.set k c := by rw [List.set_append_right _ _ (by omega), hp, Nat.add_sub_cancel_left]
theorem lkM_129 (hp : pre.length = 129) : (W2 pre de we da bo be sg pi ru st wa kn im ik tm to tr tx tn cu sa tk nu wr it sd swt sdd sbx sfl sdi sb sst sp sr nw od bs)[129]? = some (moC de da be pi ru kn tm tr tn cu sa tk nu wr it sd sdd sb sp sr) := ap_at hp 0
theorem lkM_130 (hp : pre.length = 129) : (W2 pre de we da bo be sg pi ru st wa kn im ik tm to tr tx tn cu sa tk nu wr it sd swt sdd sbx sfl sdi sb sst sp sr nw od bs)[130]? = some (ia 6 we) := ap_at hp 1
theorem lkM_131 (hp : pre.length = 129) : (W2 pre de we da bo be sg pi ru st wa kn im ik tm to tr tx tn cu sa tk nu wr it sd swt sdd sbx sfl sdi sb sst sp sr nw od bs)[131]? = some (ia 6 bo) := ap_at hp 2
theorem lkM_132 (hp : pre.length = 129) : (W2 pre de we da bo be sg pi ru st wa kn im ik tm to tr tx tn cu sa tk nu wr it sd swt sdd sbx sfl sdi sb sst sp sr nw od bs)[132]? = some (ia 6 sg) := ap_at hp 3
theorem lkM_133 (hp : pre.length = 129) : (W2 pre de we da bo be sg pi ru st wa kn im ik tm to tr tx tn cu sa tk nu wr it sd swt sdd sbx sfl sdi sb sst sp sr nw od bs)[133]? = some (ia 21 st) := ap_at hp 4
theorem lkM_134 (hp : pre.length = 129) : (W2 pre de we da bo be sg pi ru st wa kn im ik tm to tr tx tn cu sa tk nu wr it sd swt sdd sbx sfl sdi sb sst sp sr nw od bs)[134]? = some (ia 210 wa) := ap_at hp 5
theorem lkM_135 (hp : pre.length = 129) : (W2 pre de we da bo be sg pi ru st wa kn im ik tm to tr tx tn cu sa tk nu wr it sd swt sdd sbx sfl sdi sb sst sp sr nw od bs)[135]? = some (ia 42 im) := ap_at hp 6
theorem lkM_136 (hp : pre.length = 129) : (W2 pre de we da bo be sg pi ru st wa kn im ik tm to tr tx tn cu sa tk nu wr it sd swt sdd sbx sfl sdi sb sst sp sr nw od bs)[136]? = some (za 2 ik) := ap_at hp 7
theorem lkM_137 (hp : pre.length = 129) : (W2 pre de we da bo be sg pi ru st wa kn im ik tm to tr tx tn cu sa tk nu wr it sd swt sdd sbx sfl sdi sb sst sp sr nw od bs)[137]? = some (ia 12 to) := ap_at hp 8
theorem lkM_138 (hp : pre.length = 129) : (W2 pre de we da bo be sg pi ru st wa kn im ik tm to tr tx tn cu sa tk nu wr it sd swt sdd sbx sfl sdi sb sst sp sr nw od bs)[138]? = some (ia 150 tx) := ap_at hp 9
theorem lkM_139 (hp : pre.length = 129) : (W2 pre de we da bo be sg pi ru st wa kn im ik tm to tr tx tn cu sa tk nu wr it sd swt sdd sbx sfl sdi sb sst sp sr nw od bs)[139]? = some (ia 6 swt) := ap_at hp 10
theorem lkM_140 (hp : pre.length = 129) : (W2 pre de we da bo be sg pi ru st wa kn im ik tm to tr tx tn cu sa tk nu wr it sd swt sdd sbx sfl sdi sb sst sp sr nw od bs)[140]? = some (ia 6 sbx) := ap_at hp 11
theorem lkM_141 (hp : pre.length = 129) : (W2 pre de we da bo be sg pi ru st wa kn im ik tm to tr tx tn cu sa tk nu wr it sd swt sdd sbx sfl sdi sb sst sp sr nw od bs)[141]? = some (ia 6 sfl) := ap_at hp 12
theorem lkM_142 (hp : pre.length = 129) : (W2 pre de we da bo be sg pi ru st wa kn im ik tm to tr tx tn cu sa tk nu wr it sd swt sdd sbx sfl sdi sb sst sp sr nw od bs)[142]? = some (ia 6 sdi) := ap_at hp 13
theorem lkM_143 (hp : pre.length = 129) : (W2 pre de we da bo be sg pi ru st wa kn im ik tm to tr tx tn cu sa tk nu wr it sd swt sdd sbx sfl sdi sb sst sp sr nw od bs)[143]? = some (ia 6 sst) := ap_at hp 14
theorem lkM_144 (hp : pre.length = 129) : (W2 pre de we da bo be sg pi ru st wa kn im ik tm to tr tx tn cu sa tk nu wr it sd swt sdd sbx sfl sdi sb sst sp sr nw od bs)[144]? = some (ia 21 nw) := ap_at hp 15
theorem lkM_145 (hp : pre.length = 129) : (W2 pre de we da bo be sg pi ru st wa kn im ik tm to tr tx tn cu sa tk nu wr it sd swt sdd sbx sfl sdi sb sst sp sr nw od bs)[145]? = some (ia 6 od) := ap_at hp 16
theorem lkM_146 (hp : pre.length = 129) : (W2 pre de we da bo be sg pi ru st wa kn im ik tm to tr tx tn cu sa tk nu wr it sd swt sdd sbx sfl sdi sb sst sp sr nw od bs)[146]? = some (ia 6 bs) := ap_at hp 17
theorem upM_129 {de2 : Int32} {da2 : Int32} {be2 : Int32} {pi2 : Int32} {ru2 : Int32} {kn2 : Int32} {tm2 : Int32} {tr2 : Int64} {tn2 : Int32} {cu2 : Int32} {sa2 : Int32} {tk2 : Int32} {nu2 : Int32} {wr2 : Bool} {it2 : Int32} {sd2 : Int32} {sdd2 : Int32} {sb2 : Int32} {sp2 : Int32} {sr2 : Int32} (hp : pre.length = 129) : (W2 pre de we da bo be sg pi ru st wa kn im ik tm to tr tx tn cu sa tk nu wr it sd swt sdd sbx sfl sdi sb sst sp sr nw od bs).set 129 (moC de2 da2 be2 pi2 ru2 kn2 tm2 tr2 tn2 cu2 sa2 tk2 nu2 wr2 it2 sd2 sdd2 sb2 sp2 sr2) = (W2 pre (de2) we (da2) bo (be2) sg (pi2) (ru2) st wa (kn2) im ik (tm2) to (tr2) tx (tn2) (cu2) (sa2) (tk2) (nu2) (wr2) (it2) (sd2) swt (sdd2) sbx sfl sdi (sb2) sst (sp2) (sr2) nw od bs) := ap_set hp 0 _
theorem upM_130 {f2 : Fn} (hp : pre.length = 129) : (W2 pre de we da bo be sg pi ru st wa kn im ik tm to tr tx tn cu sa tk nu wr it sd swt sdd sbx sfl sdi sb sst sp sr nw od bs).set 130 (ia 6 f2) = (W2 pre de (f2) da bo be sg pi ru st wa kn im ik tm to tr tx tn cu sa tk nu wr it sd swt sdd sbx sfl sdi sb sst sp sr nw od bs) := ap_set hp 1 _
theorem upM_131 {f2 : Fn} (hp : pre.length = 129) : (W2 pre de we da bo be sg pi ru st wa kn im ik tm to tr tx tn cu sa tk nu wr it sd swt sdd sbx sfl sdi sb sst sp sr nw od bs).set 131 (ia 6 f2) = (W2 pre de we da (f2) be sg pi ru st wa kn im ik tm to tr tx tn cu sa tk nu wr it sd swt sdd sbx sfl sdi sb sst sp sr nw od bs) := ap_set hp 2 _
theorem upM_132 {f2 : Fn} (hp : pre.length = 129) : (W2 pre de we da bo be sg pi ru st wa kn im ik tm to tr tx tn cu sa tk nu wr it sd swt sdd sbx sfl sdi sb sst sp sr nw od bs).set 132 (ia 6 f2) = (W2 pre de we da bo be (f2) pi ru st wa kn im ik tm to tr tx tn cu sa tk nu wr it sd swt sdd sbx sfl sdi sb sst sp sr nw od bs) := ap_set hp 3 _
theorem upM_133 {f2 : Fn} (hp : pre.length = 129) : (W2 pre de we da bo be sg pi ru st wa kn im ik tm to tr tx tn cu sa tk nu wr it sd swt sdd sbx sfl sdi sb sst sp sr nw od bs).set 133 (ia 21 f2) = (W2 pre de we da bo be sg pi ru (f2) wa kn im ik tm to tr tx tn cu sa tk nu wr it sd swt sdd sbx sfl sdi sb sst sp sr nw od bs) := ap_set hp 4 _
theorem upM_134 {f2 : Fn} (hp : pre.length = 129) : (W2 pre de we da bo be sg pi ru st wa kn im ik tm to tr tx tn cu sa tk nu wr it sd swt sdd sbx sfl sdi sb sst sp sr nw od bs).set 134 (ia 210 f2) = (W2 pre de we da bo be sg pi ru st (f2) kn im ik tm to tr tx tn cu sa tk nu wr it sd swt sdd sbx sfl sdi sb sst sp sr nw od bs) := ap_set hp 5 _
theorem upM_135 {f2 : Fn} (hp : pre.length = 129) : (W2 pre de we da bo be sg pi ru st wa kn im ik tm to tr tx tn cu sa tk nu wr it sd swt sdd sbx sfl sdi sb sst sp sr nw od bs).set 135 (ia 42 f2) = (W2 pre de we da bo be sg pi ru st wa kn (f2) ik tm to tr tx tn cu sa tk nu wr it sd swt sdd sbx sfl sdi sb sst sp sr nw od bs) := ap_set hp 6 _
theorem upM_136 {f2 : Nat → Bool} (hp : pre.length = 129) : (W2 pre de we da bo be sg pi ru st wa kn im ik tm to tr tx tn cu sa tk nu wr it sd swt sdd sbx sfl sdi sb sst sp sr nw od bs).set 136 (za 2 f2) = (W2 pre de we da bo be sg pi ru st wa kn im (f2) tm to tr tx tn cu sa tk nu wr it sd swt sdd sbx sfl sdi sb sst sp sr nw od bs) := ap_set hp 7 _
theorem upM_137 {f2 : Fn} (hp : pre.length = 129) : (W2 pre de we da bo be sg pi ru st wa kn im ik tm to tr tx tn cu sa tk nu wr it sd swt sdd sbx sfl sdi sb sst sp sr nw od bs).set 137 (ia 12 f2) = (W2 pre de we da bo be sg pi ru st wa kn im ik tm (f2) tr tx tn cu sa tk nu wr it sd swt sdd sbx sfl sdi sb sst sp sr nw od bs) := ap_set hp 8 _
theorem upM_138 {f2 : Fn} (hp : pre.length = 129) : (W2 pre de we da bo be sg pi ru st wa kn im ik tm to tr tx tn cu sa tk nu wr it sd swt sdd sbx sfl sdi sb sst sp sr nw od bs).set 138 (ia 150 f2) = (W2 pre de we da bo be sg pi ru st wa kn im ik tm to tr (f2) tn cu sa tk nu wr it sd swt sdd sbx sfl sdi sb sst sp sr nw od bs) := ap_set hp 9 _
theorem upM_139 {f2 : Fn} (hp : pre.length = 129) : (W2 pre de we da bo be sg pi ru st wa kn im ik tm to tr tx tn cu sa tk nu wr it sd swt sdd sbx sfl sdi sb sst sp sr nw od bs).set 139 (ia 6 f2) = (W2 pre de we da bo be sg pi ru st wa kn im ik tm to tr tx tn cu sa tk nu wr it sd (f2) sdd sbx sfl sdi sb sst sp sr nw od bs) := ap_set hp 10 _
theorem upM_140 {f2 : Fn} (hp : pre.length = 129) : (W2 pre de we da bo be sg pi ru st wa kn im ik tm to tr tx tn cu sa tk nu wr it sd swt sdd sbx sfl sdi sb sst sp sr nw od bs).set 140 (ia 6 f2) = (W2 pre de we da bo be sg pi ru st wa kn im ik tm to tr tx tn cu sa tk nu wr it sd swt sdd (f2) sfl sdi sb sst sp sr nw od bs) := ap_set hp 11 _
theorem upM_141 {f2 : Fn} (hp : pre.length = 129) : (W2 pre de we da bo be sg pi ru st wa kn im ik tm to tr tx tn cu sa tk nu wr it sd swt sdd sbx sfl sdi sb sst sp sr nw od bs).set 141 (ia 6 f2) = (W2 pre de we da bo be sg pi ru st wa kn im ik tm to tr tx tn cu sa tk nu wr it sd swt sdd sbx (f2) sdi sb sst sp sr nw od bs) := ap_set hp 12 _
theorem upM_142 {f2 : Fn} (hp : pre.length = 129) : (W2 pre de we da bo be sg pi ru st wa kn im ik tm to tr tx tn cu sa tk nu wr it sd swt sdd sbx sfl sdi sb sst sp sr nw od bs).set 142 (ia 6 f2) = (W2 pre de we da bo be sg pi ru st wa kn im ik tm to tr tx tn cu sa tk nu wr it sd swt sdd sbx sfl (f2) sb sst sp sr nw od bs) := ap_set hp 13 _
theorem upM_143 {f2 : Fn} (hp : pre.length = 129) : (W2 pre de we da bo be sg pi ru st wa kn im ik tm to tr tx tn cu sa tk nu wr it sd swt sdd sbx sfl sdi sb sst sp sr nw od bs).set 143 (ia 6 f2) = (W2 pre de we da bo be sg pi ru st wa kn im ik tm to tr tx tn cu sa tk nu wr it sd swt sdd sbx sfl sdi sb (f2) sp sr nw od bs) := ap_set hp 14 _
theorem upM_144 {f2 : Fn} (hp : pre.length = 129) : (W2 pre de we da bo be sg pi ru st wa kn im ik tm to tr tx tn cu sa tk nu wr it sd swt sdd sbx sfl sdi sb sst sp sr nw od bs).set 144 (ia 21 f2) = (W2 pre de we da bo be sg pi ru st wa kn im ik tm to tr tx tn cu sa tk nu wr it sd swt sdd sbx sfl sdi sb sst sp sr (f2) od bs) := ap_set hp 15 _
theorem upM_145 {f2 : Fn} (hp : pre.length = 129) : (W2 pre de we da bo be sg pi ru st wa kn im ik tm to tr tx tn cu sa tk nu wr it sd swt sdd sbx sfl sdi sb sst sp sr nw od bs).set 145 (ia 6 f2) = (W2 pre de we da bo be sg pi ru st wa kn im ik tm to tr tx tn cu sa tk nu wr it sd swt sdd sbx sfl sdi sb sst sp sr nw (f2) bs) := ap_set hp 16 _
theorem upM_146 {f2 : Fn} (hp : pre.length = 129) : (W2 pre de we da bo be sg pi ru st wa kn im ik tm to tr tx tn cu sa tk nu wr it sd swt sdd sbx sfl sdi sb sst sp sr nw od bs).set 146 (ia 6 f2) = (W2 pre de we da bo be sg pi ru st wa kn im ik tm to tr tx tn cu sa tk nu wr it sd swt sdd sbx sfl sdi sb sst sp sr nw od (f2)) := ap_set hp 17 _
end

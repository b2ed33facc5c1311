/-! the law: two calls at a time -/
section
variable {g : GG} {scr : AC} {h : List AC}
theorem Good_at (hG : Good scr h) : at2 scr h := by
  obtain ⟨_, _, _, _, _, _, _, _, _, _, _, _, _, _, _, _, _, _, _, _, _, _, _, _, _, _, _, _, _, _, _, _, _, _, _, _, _, _, _, _, _, _, _, _, _, _, _, _, _, _, _, _, _, _, hR, rfl⟩ := hG
  exact at2_W
theorem pg_type {a1 : Int32} (hG : Good scr h) : Pair g scr mX6_type mX7_type [.int a1] h := by
  obtain ⟨_, _, _, _, _, _, _, _, _, _, _, _, _, _, _, _, _, _, _, _, _, _, _, _, _, _, _, _, _, _, _, _, _, _, _, _, _, _, _, _, _, _, _, _, _, _, _, _, _, _, _, _, _, _, hR, rfl⟩ := hG
  exact p_type hR
theorem pg_clear (hG : Good scr h) : Pair g scr mX6_clear mX7_clear [] h := by
  obtain ⟨_, _, _, _, _, _, _, _, _, _, _, _, _, _, _, _, _, _, _, _, _, _, _, _, _, _, _, _, _, _, _, _, _, _, _, _, _, _, _, _, _, _, _, _, _, _, _, _, _, _, _, _, _, _, hR, rfl⟩ := hG
  exact p_clear hR
theorem pg_gate (hG : Good scr h) : Pair g scr mX6_gate mX7_gate [] h := by
  obtain ⟨_, _, _, _, _, _, _, _, _, _, _, _, _, _, _, _, _, _, _, _, _, _, _, _, _, _, _, _, _, _, _, _, _, _, _, _, _, _, _, _, _, _, _, _, _, _, _, _, _, _, _, _, _, _, hR, rfl⟩ := hG
  exact p_gate hR
theorem pg_deed {a1 a2 : Int32} (hG : Good scr h) : Pair g scr mX6_deed mX7_deed [.int a1, .int a2] h := by
  obtain ⟨_, _, _, _, _, _, _, _, _, _, _, _, _, _, _, _, _, _, _, _, _, _, _, _, _, _, _, _, _, _, _, _, _, _, _, _, _, _, _, _, _, _, _, _, _, _, _, _, _, _, _, _, _, _, hR, rfl⟩ := hG
  exact p_deed hR
theorem pg_dead {a1 a2 : Int32} (hG : Good scr h) : Pair g scr mX6_dead mX7_dead [.int a1, .int a2] h := by
  obtain ⟨_, _, _, _, _, _, _, _, _, _, _, _, _, _, _, _, _, _, _, _, _, _, _, _, _, _, _, _, _, _, _, _, _, _, _, _, _, _, _, _, _, _, _, _, _, _, _, _, _, _, _, _, _, _, hR, rfl⟩ := hG
  exact p_dead hR
theorem pg_bearer {a1 : Int32} (hG : Good scr h) : Pair g scr mX6_bearer mX7_bearer [.int a1] h := by
  obtain ⟨_, _, _, _, _, _, _, _, _, _, _, _, _, _, _, _, _, _, _, _, _, _, _, _, _, _, _, _, _, _, _, _, _, _, _, _, _, _, _, _, _, _, _, _, _, _, _, _, _, _, _, _, _, _, hR, rfl⟩ := hG
  exact p_bearer hR
theorem pg_now {a1 : Int32} (hG : Good scr h) : Pair g scr mX6_now mX7_now [.int a1] h := by
  obtain ⟨_, _, _, _, _, _, _, _, _, _, _, _, _, _, _, _, _, _, _, _, _, _, _, _, _, _, _, _, _, _, _, _, _, _, _, _, _, _, _, _, _, _, _, _, _, _, _, _, _, _, _, _, _, _, hR, rfl⟩ := hG
  exact p_now hR
theorem pg_lays {a1 : Int32} (hG : Good scr h) : Pair g scr mX6_lays mX7_lays [.int a1] h := by
  obtain ⟨_, _, _, _, _, _, _, _, _, _, _, _, _, _, _, _, _, _, _, _, _, _, _, _, _, _, _, _, _, _, _, _, _, _, _, _, _, _, _, _, _, _, _, _, _, _, _, _, _, _, _, _, _, _, hR, rfl⟩ := hG
  exact p_lays hR
theorem pg_thumbs {a1 : Int32} (hG : Good scr h) : Pair g scr mX6_thumbs mX7_thumbs [.int a1] h := by
  obtain ⟨_, _, _, _, _, _, _, _, _, _, _, _, _, _, _, _, _, _, _, _, _, _, _, _, _, _, _, _, _, _, _, _, _, _, _, _, _, _, _, _, _, _, _, _, _, _, _, _, _, _, _, _, _, _, hR, rfl⟩ := hG
  exact p_thumbs hR
theorem pg_adorns {a1 a2 : Int32} (hG : Good scr h) : Pair g scr mX6_adorns mX7_adorns [.int a1, .int a2] h := by
  obtain ⟨_, _, _, _, _, _, _, _, _, _, _, _, _, _, _, _, _, _, _, _, _, _, _, _, _, _, _, _, _, _, _, _, _, _, _, _, _, _, _, _, _, _, _, _, _, _, _, _, _, _, _, _, _, _, hR, rfl⟩ := hG
  exact p_adorns hR
theorem pg_sins {a1 a2 : Int32} (hG : Good scr h) : Pair g scr mX6_sins mX7_sins [.int a1, .int a2] h := by
  obtain ⟨_, _, _, _, _, _, _, _, _, _, _, _, _, _, _, _, _, _, _, _, _, _, _, _, _, _, _, _, _, _, _, _, _, _, _, _, _, _, _, _, _, _, _, _, _, _, _, _, _, _, _, _, _, _, hR, rfl⟩ := hG
  exact p_sins hR
theorem pg_oils {a1 : Int32} (hG : Good scr h) : Pair g scr mX6_oils mX7_oils [.int a1] h := by
  obtain ⟨_, _, _, _, _, _, _, _, _, _, _, _, _, _, _, _, _, _, _, _, _, _, _, _, _, _, _, _, _, _, _, _, _, _, _, _, _, _, _, _, _, _, _, _, _, _, _, _, _, _, _, _, _, _, hR, rfl⟩ := hG
  exact p_oils hR
theorem pg_year (hG : Good scr h) : Pair g scr mX6_year mX7_year [] h := by
  obtain ⟨_, _, _, _, _, _, _, _, _, _, _, _, _, _, _, _, _, _, _, _, _, _, _, _, _, _, _, _, _, _, _, _, _, _, _, _, _, _, _, _, _, _, _, _, _, _, _, _, _, _, _, _, _, _, hR, rfl⟩ := hG
  exact p_year hR
theorem pg_undo (hG : Good scr h) : Pair g scr mX6_undo mX7_undo [] h := by
  obtain ⟨_, _, _, _, _, _, _, _, _, _, _, _, _, _, _, _, _, _, _, _, _, _, _, _, _, _, _, _, _, _, _, _, _, _, _, _, _, _, _, _, _, _, _, _, _, _, _, _, _, _, _, _, _, _, hR, rfl⟩ := hG
  exact p_undo hR
theorem pg_order {a1 : Int32} (hG : Good scr h) : Pair g scr mX6_order mX7_order [.int a1] h := by
  obtain ⟨_, _, _, _, _, _, _, _, _, _, _, _, _, _, _, _, _, _, _, _, _, _, _, _, _, _, _, _, _, _, _, _, _, _, _, _, _, _, _, _, _, _, _, _, _, _, _, _, _, _, _, _, _, _, hR, rfl⟩ := hG
  exact p_order hR
theorem pg_tells {a1 a2 : Int32} (hG : Good scr h) : Pair g scr mX6_tells mX7_tells [.int a1, .int a2] h := by
  obtain ⟨_, _, _, _, _, _, _, _, _, _, _, _, _, _, _, _, _, _, _, _, _, _, _, _, _, _, _, _, _, _, _, _, _, _, _, _, _, _, _, _, _, _, _, _, _, _, _, _, _, _, _, _, _, _, hR, rfl⟩ := hG
  exact p_tells hR
theorem pg_forget (hG : Good scr h) : Pair g scr mX6_forget mX7_forget [] h := by
  obtain ⟨_, _, _, _, _, _, _, _, _, _, _, _, _, _, _, _, _, _, _, _, _, _, _, _, _, _, _, _, _, _, _, _, _, _, _, _, _, _, _, _, _, _, _, _, _, _, _, _, _, _, _, _, _, _, hR, rfl⟩ := hG
  exact p_forget hR
theorem pg_can {a1 : Int32} (hG : Good scr h) : Pair g scr mX6_can mX7_can [.int a1] h := by
  obtain ⟨_, _, _, _, _, _, _, _, _, _, _, _, _, _, _, _, _, _, _, _, _, _, _, _, _, _, _, _, _, _, _, _, _, _, _, _, _, _, _, _, _, _, _, _, _, _, _, _, _, _, _, _, _, _, hR, rfl⟩ := hG
  exact p_can hR
theorem pg_ask (hG : Good scr h) : Pair g scr mX6_ask mX7_ask [] h := by
  obtain ⟨_, _, _, _, _, _, _, _, _, _, _, _, _, _, _, _, _, _, _, _, _, _, _, _, _, _, _, _, _, _, _, _, _, _, _, _, _, _, _, _, _, _, _, _, _, _, _, _, _, _, _, _, _, _, hR, rfl⟩ := hG
  exact p_ask hR
theorem pg_life {a1 a2 : Int32} (hG : Good scr h) : Pair g scr mX6_life mX7_life [.int a1, .int a2] h := by
  obtain ⟨_, _, _, _, _, _, _, _, _, _, _, _, _, _, _, _, _, _, _, _, _, _, _, _, _, _, _, _, _, _, _, _, _, _, _, _, _, _, _, _, _, _, _, _, _, _, _, _, _, _, _, _, _, _, hR, rfl⟩ := hG
  exact p_life hR
theorem pg_carry {a1 a2 : Int32} (hG : Good scr h) : Pair g scr mX6_carry mX7_carry [.int a1, .int a2] h := by
  obtain ⟨_, _, _, _, _, _, _, _, _, _, _, _, _, _, _, _, _, _, _, _, _, _, _, _, _, _, _, _, _, _, _, _, _, _, _, _, _, _, _, _, _, _, _, _, _, _, _, _, _, _, _, _, _, _, hR, rfl⟩ := hG
  exact p_carry hR
theorem pg_odds {a1 a2 a3 : Int32} (hG : Good scr h) : Pair g scr mX6_odds mX7_odds [.int a1, .int a2, .int a3] h := by
  obtain ⟨_, _, _, _, _, _, _, _, _, _, _, _, _, _, _, _, _, _, _, _, _, _, _, _, _, _, _, _, _, _, _, _, _, _, _, _, _, _, _, _, _, _, _, _, _, _, _, _, _, _, _, _, _, _, hR, rfl⟩ := hG
  exact p_odds hR
theorem pg_rate {a1 a2 : Int32} (hG : Good scr h) : Pair g scr mX6_rate mX7_rate [.int a1, .int a2] h := by
  obtain ⟨_, _, _, _, _, _, _, _, _, _, _, _, _, _, _, _, _, _, _, _, _, _, _, _, _, _, _, _, _, _, _, _, _, _, _, _, _, _, _, _, _, _, _, _, _, _, _, _, _, _, _, _, _, _, hR, rfl⟩ := hG
  exact p_rate hR
theorem pg_keep {a1 : Int32} (hG : Good scr h) : Pair g scr mX6_keep mX7_keep [.int a1] h := by
  obtain ⟨_, _, _, _, _, _, _, _, _, _, _, _, _, _, _, _, _, _, _, _, _, _, _, _, _, _, _, _, _, _, _, _, _, _, _, _, _, _, _, _, _, _, _, _, _, _, _, _, _, _, _, _, _, _, hR, rfl⟩ := hG
  exact p_keep hR
theorem pg_back {a1 : Int32} (hG : Good scr h) : Pair g scr mX6_back mX7_back [.int a1] h := by
  obtain ⟨_, _, _, _, _, _, _, _, _, _, _, _, _, _, _, _, _, _, _, _, _, _, _, _, _, _, _, _, _, _, _, _, _, _, _, _, _, _, _, _, _, _, _, _, _, _, _, _, _, _, _, _, _, _, hR, rfl⟩ := hG
  exact p_back hR
theorem pg_count {a1 : Int32} (hG : Good scr h) : Pair g scr mX6_count mX7_count [.int a1] h := by
  obtain ⟨_, _, _, _, _, _, _, _, _, _, _, _, _, _, _, _, _, _, _, _, _, _, _, _, _, _, _, _, _, _, _, _, _, _, _, _, _, _, _, _, _, _, _, _, _, _, _, _, _, _, _, _, _, _, hR, rfl⟩ := hG
  exact p_count hR
theorem pg_trace (hG : Good scr h) : Pair g scr mX6_trace mX7_trace [] h := by
  obtain ⟨_, _, _, _, _, _, _, _, _, _, _, _, _, _, _, _, _, _, _, _, _, _, _, _, _, _, _, _, _, _, _, _, _, _, _, _, _, _, _, _, _, _, _, _, _, _, _, _, _, _, _, _, _, _, hR, rfl⟩ := hG
  exact p_trace hR
end
def QL : Option Value → List AC → Prop := fun r _ => r = some (.int 1)
theorem cmp_same (x : Int64) : lg_cmp x x = 0 := by
  have h : ¬ x < x := fun q => absurd (Int64.lt_iff_toInt_lt.mp q) (by omega)
  unfold lg_cmp
  rw [if_neg h, if_pos rfl]
section
variable {g : GG} {L : Nat} {xs : Nat → Int32}
set_option maxRecDepth 20000 in
set_option maxHeartbeats 200000 in
theorem la_type {h : List AC} {k : Nat} (hL : L ≤ 2048) (hk : k + 3 < L) (hG : Good (11, iv L xs) h) (ih : ∀ h2 : List AC, Good (11, iv L xs) h2 → J g mL_law 21 0 0 QL h2 808 [some (.ref 0), some (.ref 1), some (.ref 129), some (.int (nI k))] []) : J g mL_law 21 0 0 QL h 156 [some (.ref 0), some (.ref 1), some (.ref 129), some (.int (nI k))] [] := by
  obtain ⟨v9, h9, G9, hG9, ⟨hv9, a0, ⟨f6, a1⟩, ⟨f7, a7⟩⟩, c1, c2⟩ := pg_type (g := g) (a1 := xs (k + 1)) hG
  obtain ⟨b0, ⟨g6, b1⟩, _⟩ := Good_at hG
  obtain ⟨x9, rfl⟩ : ∃ x9, v9 = .int x9 := by
    rcases hv9 with ⟨e9, x9, q9⟩ | ⟨e9, x9, q9⟩
    · exact ⟨x9, q9⟩
    · exact absurd e9 (by decide)
  refine j_aload_n (pc := 156) dL_law_156 rfl ?_
  refine j_aload_n (pc := 157) dL_law_157 rfl ?_
  refine j_iload_n (pc := 158) dL_law_158 rfl ?_
  refine j_iconst (pc := 159) dL_law_159 kc_1 ?_
  refine j_iadd (pc := 160) dL_law_160 ?_
  refine j_ialdE (pc := 161) dL_law_161 b0 rfl (nIa k 1) (by omega) (by omega) ?_
  refine j_v1 (pc := 162) (ci := 6) dL_law_162 mc_X6_type ml_L_13 im_X6_type se_X6_type rfl rfl b1 (by omega) (c1) (Nat.le_of_ble_eq_true rfl) ?_
  refine j_aload_n (pc := 165) dL_law_165 rfl ?_
  refine j_aload_n (pc := 166) dL_law_166 rfl ?_
  refine j_iload_n (pc := 167) dL_law_167 rfl ?_
  refine j_iconst (pc := 168) dL_law_168 kc_1 ?_
  refine j_iadd (pc := 169) dL_law_169 ?_
  refine j_ialdE (pc := 170) dL_law_170 a0 rfl (nIa k 1) (by omega) (by omega) ?_
  refine j_v1g (pc := 171) (ci := 7) dL_law_171 mc_X7_type ml_L_17 im_X7_type se_X7_type rfl rfl a7 (by omega) (c2) (Nat.le_of_ble_eq_true rfl) (fun r9 h2 q9 => ?_)
  obtain ⟨rfl, hg9⟩ := q9
  change J g mL_law 21 0 0 _ _ _ _ (.int x9 :: .int x9 :: [])
  refine j_icmp_eq (pc := 174) (tgt := 808) dL_law_174 rfl (fun _ => ?_) (fun zc174 => absurd rfl zc174)
  exact ih _ (hG9 _ hg9)

set_option maxRecDepth 20000 in
set_option maxHeartbeats 200000 in
theorem la_clear {h : List AC} {k : Nat} (hL : L ≤ 2048) (hk : k + 3 < L) (hG : Good (11, iv L xs) h) (ih : ∀ h2 : List AC, Good (11, iv L xs) h2 → J g mL_law 21 0 0 QL h2 808 [some (.ref 0), some (.ref 1), some (.ref 129), some (.int (nI k))] []) : J g mL_law 21 0 0 QL h 179 [some (.ref 0), some (.ref 1), some (.ref 129), some (.int (nI k))] [] := by
  obtain ⟨v9, h9, G9, hG9, ⟨hv9, a0, ⟨f6, a1⟩, ⟨f7, a7⟩⟩, c1, c2⟩ := pg_clear (g := g)  hG
  obtain ⟨b0, ⟨g6, b1⟩, _⟩ := Good_at hG
  obtain ⟨x9, rfl⟩ : ∃ x9, v9 = .int x9 := by
    rcases hv9 with ⟨e9, x9, q9⟩ | ⟨e9, x9, q9⟩
    · exact ⟨x9, q9⟩
    · exact absurd e9 (by decide)
  refine j_aload_n (pc := 179) dL_law_179 rfl ?_
  refine j_v0 (pc := 180) (ci := 6) dL_law_180 mc_X6_clear ml_L_18 im_X6_clear se_X6_clear rfl rfl b1 (by omega) (c1) (Nat.le_of_ble_eq_true rfl) ?_
  refine j_aload_n (pc := 183) dL_law_183 rfl ?_
  refine j_v0g (pc := 184) (ci := 7) dL_law_184 mc_X7_clear ml_L_22 im_X7_clear se_X7_clear rfl rfl a7 (by omega) (c2) (Nat.le_of_ble_eq_true rfl) (fun r9 h2 q9 => ?_)
  obtain ⟨rfl, hg9⟩ := q9
  change J g mL_law 21 0 0 _ _ _ _ (.int x9 :: .int x9 :: [])
  refine j_icmp_eq (pc := 187) (tgt := 808) dL_law_187 rfl (fun _ => ?_) (fun zc187 => absurd rfl zc187)
  exact ih _ (hG9 _ hg9)

set_option maxRecDepth 20000 in
set_option maxHeartbeats 200000 in
theorem la_gate {h : List AC} {k : Nat} (hL : L ≤ 2048) (hk : k + 3 < L) (hG : Good (11, iv L xs) h) (ih : ∀ h2 : List AC, Good (11, iv L xs) h2 → J g mL_law 21 0 0 QL h2 808 [some (.ref 0), some (.ref 1), some (.ref 129), some (.int (nI k))] []) : J g mL_law 21 0 0 QL h 192 [some (.ref 0), some (.ref 1), some (.ref 129), some (.int (nI k))] [] := by
  obtain ⟨v9, h9, G9, hG9, ⟨hv9, a0, ⟨f6, a1⟩, ⟨f7, a7⟩⟩, c1, c2⟩ := pg_gate (g := g)  hG
  obtain ⟨b0, ⟨g6, b1⟩, _⟩ := Good_at hG
  obtain ⟨x9, rfl⟩ : ∃ x9, v9 = .int x9 := by
    rcases hv9 with ⟨e9, x9, q9⟩ | ⟨e9, x9, q9⟩
    · exact ⟨x9, q9⟩
    · exact absurd e9 (by decide)
  refine j_aload_n (pc := 192) dL_law_192 rfl ?_
  refine j_v0 (pc := 193) (ci := 6) dL_law_193 mc_X6_gate ml_L_23 im_X6_gate se_X6_gate rfl rfl b1 (by omega) (c1) (Nat.le_of_ble_eq_true rfl) ?_
  refine j_aload_n (pc := 196) dL_law_196 rfl ?_
  refine j_v0g (pc := 197) (ci := 7) dL_law_197 mc_X7_gate ml_L_26 im_X7_gate se_X7_gate rfl rfl a7 (by omega) (c2) (Nat.le_of_ble_eq_true rfl) (fun r9 h2 q9 => ?_)
  obtain ⟨rfl, hg9⟩ := q9
  change J g mL_law 21 0 0 _ _ _ _ (.int x9 :: .int x9 :: [])
  refine j_icmp_eq (pc := 200) (tgt := 808) dL_law_200 rfl (fun _ => ?_) (fun zc200 => absurd rfl zc200)
  exact ih _ (hG9 _ hg9)

set_option maxRecDepth 20000 in
set_option maxHeartbeats 200000 in
theorem la_deed {h : List AC} {k : Nat} (hL : L ≤ 2048) (hk : k + 3 < L) (hG : Good (11, iv L xs) h) (ih : ∀ h2 : List AC, Good (11, iv L xs) h2 → J g mL_law 21 0 0 QL h2 808 [some (.ref 0), some (.ref 1), some (.ref 129), some (.int (nI k))] []) : J g mL_law 21 0 0 QL h 205 [some (.ref 0), some (.ref 1), some (.ref 129), some (.int (nI k))] [] := by
  obtain ⟨v9, h9, G9, hG9, ⟨hv9, a0, ⟨f6, a1⟩, ⟨f7, a7⟩⟩, c1, c2⟩ := pg_deed (g := g) (a1 := xs (k + 1)) (a2 := xs (k + 2)) hG
  obtain ⟨b0, ⟨g6, b1⟩, _⟩ := Good_at hG
  obtain ⟨x9, rfl⟩ : ∃ x9, v9 = .int x9 := by
    rcases hv9 with ⟨e9, x9, q9⟩ | ⟨e9, x9, q9⟩
    · exact ⟨x9, q9⟩
    · exact absurd e9 (by decide)
  refine j_aload_n (pc := 205) dL_law_205 rfl ?_
  refine j_aload_n (pc := 206) dL_law_206 rfl ?_
  refine j_iload_n (pc := 207) dL_law_207 rfl ?_
  refine j_iconst (pc := 208) dL_law_208 kc_1 ?_
  refine j_iadd (pc := 209) dL_law_209 ?_
  refine j_ialdE (pc := 210) dL_law_210 b0 rfl (nIa k 1) (by omega) (by omega) ?_
  refine j_aload_n (pc := 211) dL_law_211 rfl ?_
  refine j_iload_n (pc := 212) dL_law_212 rfl ?_
  refine j_iconst (pc := 213) dL_law_213 kc_2 ?_
  refine j_iadd (pc := 214) dL_law_214 ?_
  refine j_ialdE (pc := 215) dL_law_215 b0 rfl (nIa k 2) (by omega) (by omega) ?_
  refine j_v2 (pc := 216) (ci := 6) dL_law_216 mc_X6_deed ml_L_27 im_X6_deed se_X6_deed rfl rfl b1 (by omega) (c1) (Nat.le_of_ble_eq_true rfl) ?_
  refine j_aload_n (pc := 219) dL_law_219 rfl ?_
  refine j_aload_n (pc := 220) dL_law_220 rfl ?_
  refine j_iload_n (pc := 221) dL_law_221 rfl ?_
  refine j_iconst (pc := 222) dL_law_222 kc_1 ?_
  refine j_iadd (pc := 223) dL_law_223 ?_
  refine j_ialdE (pc := 224) dL_law_224 a0 rfl (nIa k 1) (by omega) (by omega) ?_
  refine j_aload_n (pc := 225) dL_law_225 rfl ?_
  refine j_iload_n (pc := 226) dL_law_226 rfl ?_
  refine j_iconst (pc := 227) dL_law_227 kc_2 ?_
  refine j_iadd (pc := 228) dL_law_228 ?_
  refine j_ialdE (pc := 229) dL_law_229 a0 rfl (nIa k 2) (by omega) (by omega) ?_
  refine j_v2g (pc := 230) (ci := 7) dL_law_230 mc_X7_deed ml_L_31 im_X7_deed se_X7_deed rfl rfl a7 (by omega) (c2) (Nat.le_of_ble_eq_true rfl) (fun r9 h2 q9 => ?_)
  obtain ⟨rfl, hg9⟩ := q9
  change J g mL_law 21 0 0 _ _ _ _ (.int x9 :: .int x9 :: [])
  refine j_icmp_eq (pc := 233) (tgt := 808) dL_law_233 rfl (fun _ => ?_) (fun zc233 => absurd rfl zc233)
  exact ih _ (hG9 _ hg9)

set_option maxRecDepth 20000 in
set_option maxHeartbeats 200000 in
theorem la_dead {h : List AC} {k : Nat} (hL : L ≤ 2048) (hk : k + 3 < L) (hG : Good (11, iv L xs) h) (ih : ∀ h2 : List AC, Good (11, iv L xs) h2 → J g mL_law 21 0 0 QL h2 808 [some (.ref 0), some (.ref 1), some (.ref 129), some (.int (nI k))] []) : J g mL_law 21 0 0 QL h 238 [some (.ref 0), some (.ref 1), some (.ref 129), some (.int (nI k))] [] := by
  obtain ⟨v9, h9, G9, hG9, ⟨hv9, a0, ⟨f6, a1⟩, ⟨f7, a7⟩⟩, c1, c2⟩ := pg_dead (g := g) (a1 := xs (k + 1)) (a2 := xs (k + 2)) hG
  obtain ⟨b0, ⟨g6, b1⟩, _⟩ := Good_at hG
  obtain ⟨x9, rfl⟩ : ∃ x9, v9 = .int x9 := by
    rcases hv9 with ⟨e9, x9, q9⟩ | ⟨e9, x9, q9⟩
    · exact ⟨x9, q9⟩
    · exact absurd e9 (by decide)
  refine j_aload_n (pc := 238) dL_law_238 rfl ?_
  refine j_aload_n (pc := 239) dL_law_239 rfl ?_
  refine j_iload_n (pc := 240) dL_law_240 rfl ?_
  refine j_iconst (pc := 241) dL_law_241 kc_1 ?_
  refine j_iadd (pc := 242) dL_law_242 ?_
  refine j_ialdE (pc := 243) dL_law_243 b0 rfl (nIa k 1) (by omega) (by omega) ?_
  refine j_aload_n (pc := 244) dL_law_244 rfl ?_
  refine j_iload_n (pc := 245) dL_law_245 rfl ?_
  refine j_iconst (pc := 246) dL_law_246 kc_2 ?_
  refine j_iadd (pc := 247) dL_law_247 ?_
  refine j_ialdE (pc := 248) dL_law_248 b0 rfl (nIa k 2) (by omega) (by omega) ?_
  refine j_v2 (pc := 249) (ci := 6) dL_law_249 mc_X6_dead ml_L_32 im_X6_dead se_X6_dead rfl rfl b1 (by omega) (c1) (Nat.le_of_ble_eq_true rfl) ?_
  refine j_aload_n (pc := 252) dL_law_252 rfl ?_
  refine j_aload_n (pc := 253) dL_law_253 rfl ?_
  refine j_iload_n (pc := 254) dL_law_254 rfl ?_
  refine j_iconst (pc := 255) dL_law_255 kc_1 ?_
  refine j_iadd (pc := 256) dL_law_256 ?_
  refine j_ialdE (pc := 257) dL_law_257 a0 rfl (nIa k 1) (by omega) (by omega) ?_
  refine j_aload_n (pc := 258) dL_law_258 rfl ?_
  refine j_iload_n (pc := 259) dL_law_259 rfl ?_
  refine j_iconst (pc := 260) dL_law_260 kc_2 ?_
  refine j_iadd (pc := 261) dL_law_261 ?_
  refine j_ialdE (pc := 262) dL_law_262 a0 rfl (nIa k 2) (by omega) (by omega) ?_
  refine j_v2g (pc := 263) (ci := 7) dL_law_263 mc_X7_dead ml_L_35 im_X7_dead se_X7_dead rfl rfl a7 (by omega) (c2) (Nat.le_of_ble_eq_true rfl) (fun r9 h2 q9 => ?_)
  obtain ⟨rfl, hg9⟩ := q9
  change J g mL_law 21 0 0 _ _ _ _ (.int x9 :: .int x9 :: [])
  refine j_icmp_eq (pc := 266) (tgt := 808) dL_law_266 rfl (fun _ => ?_) (fun zc266 => absurd rfl zc266)
  exact ih _ (hG9 _ hg9)

set_option maxRecDepth 20000 in
set_option maxHeartbeats 200000 in
theorem la_bearer {h : List AC} {k : Nat} (hL : L ≤ 2048) (hk : k + 3 < L) (hG : Good (11, iv L xs) h) (ih : ∀ h2 : List AC, Good (11, iv L xs) h2 → J g mL_law 21 0 0 QL h2 808 [some (.ref 0), some (.ref 1), some (.ref 129), some (.int (nI k))] []) : J g mL_law 21 0 0 QL h 271 [some (.ref 0), some (.ref 1), some (.ref 129), some (.int (nI k))] [] := by
  obtain ⟨v9, h9, G9, hG9, ⟨hv9, a0, ⟨f6, a1⟩, ⟨f7, a7⟩⟩, c1, c2⟩ := pg_bearer (g := g) (a1 := xs (k + 1)) hG
  obtain ⟨b0, ⟨g6, b1⟩, _⟩ := Good_at hG
  obtain ⟨x9, rfl⟩ : ∃ x9, v9 = .int x9 := by
    rcases hv9 with ⟨e9, x9, q9⟩ | ⟨e9, x9, q9⟩
    · exact ⟨x9, q9⟩
    · exact absurd e9 (by decide)
  refine j_aload_n (pc := 271) dL_law_271 rfl ?_
  refine j_aload_n (pc := 272) dL_law_272 rfl ?_
  refine j_iload_n (pc := 273) dL_law_273 rfl ?_
  refine j_iconst (pc := 274) dL_law_274 kc_1 ?_
  refine j_iadd (pc := 275) dL_law_275 ?_
  refine j_ialdE (pc := 276) dL_law_276 b0 rfl (nIa k 1) (by omega) (by omega) ?_
  refine j_v1 (pc := 277) (ci := 6) dL_law_277 mc_X6_bearer ml_L_36 im_X6_bearer se_X6_bearer rfl rfl b1 (by omega) (c1) (Nat.le_of_ble_eq_true rfl) ?_
  refine j_aload_n (pc := 280) dL_law_280 rfl ?_
  refine j_aload_n (pc := 281) dL_law_281 rfl ?_
  refine j_iload_n (pc := 282) dL_law_282 rfl ?_
  refine j_iconst (pc := 283) dL_law_283 kc_1 ?_
  refine j_iadd (pc := 284) dL_law_284 ?_
  refine j_ialdE (pc := 285) dL_law_285 a0 rfl (nIa k 1) (by omega) (by omega) ?_
  refine j_v1g (pc := 286) (ci := 7) dL_law_286 mc_X7_bearer ml_L_39 im_X7_bearer se_X7_bearer rfl rfl a7 (by omega) (c2) (Nat.le_of_ble_eq_true rfl) (fun r9 h2 q9 => ?_)
  obtain ⟨rfl, hg9⟩ := q9
  change J g mL_law 21 0 0 _ _ _ _ (.int x9 :: .int x9 :: [])
  refine j_icmp_eq (pc := 289) (tgt := 808) dL_law_289 rfl (fun _ => ?_) (fun zc289 => absurd rfl zc289)
  exact ih _ (hG9 _ hg9)

set_option maxRecDepth 20000 in
set_option maxHeartbeats 200000 in
theorem la_now {h : List AC} {k : Nat} (hL : L ≤ 2048) (hk : k + 3 < L) (hG : Good (11, iv L xs) h) (ih : ∀ h2 : List AC, Good (11, iv L xs) h2 → J g mL_law 21 0 0 QL h2 808 [some (.ref 0), some (.ref 1), some (.ref 129), some (.int (nI k))] []) : J g mL_law 21 0 0 QL h 294 [some (.ref 0), some (.ref 1), some (.ref 129), some (.int (nI k))] [] := by
  obtain ⟨v9, h9, G9, hG9, ⟨hv9, a0, ⟨f6, a1⟩, ⟨f7, a7⟩⟩, c1, c2⟩ := pg_now (g := g) (a1 := xs (k + 1)) hG
  obtain ⟨b0, ⟨g6, b1⟩, _⟩ := Good_at hG
  obtain ⟨x9, rfl⟩ : ∃ x9, v9 = .int x9 := by
    rcases hv9 with ⟨e9, x9, q9⟩ | ⟨e9, x9, q9⟩
    · exact ⟨x9, q9⟩
    · exact absurd e9 (by decide)
  refine j_aload_n (pc := 294) dL_law_294 rfl ?_
  refine j_aload_n (pc := 295) dL_law_295 rfl ?_
  refine j_iload_n (pc := 296) dL_law_296 rfl ?_
  refine j_iconst (pc := 297) dL_law_297 kc_1 ?_
  refine j_iadd (pc := 298) dL_law_298 ?_
  refine j_ialdE (pc := 299) dL_law_299 b0 rfl (nIa k 1) (by omega) (by omega) ?_
  refine j_v1 (pc := 300) (ci := 6) dL_law_300 mc_X6_now ml_L_40 im_X6_now se_X6_now rfl rfl b1 (by omega) (c1) (Nat.le_of_ble_eq_true rfl) ?_
  refine j_aload_n (pc := 303) dL_law_303 rfl ?_
  refine j_aload_n (pc := 304) dL_law_304 rfl ?_
  refine j_iload_n (pc := 305) dL_law_305 rfl ?_
  refine j_iconst (pc := 306) dL_law_306 kc_1 ?_
  refine j_iadd (pc := 307) dL_law_307 ?_
  refine j_ialdE (pc := 308) dL_law_308 a0 rfl (nIa k 1) (by omega) (by omega) ?_
  refine j_v1g (pc := 309) (ci := 7) dL_law_309 mc_X7_now ml_L_43 im_X7_now se_X7_now rfl rfl a7 (by omega) (c2) (Nat.le_of_ble_eq_true rfl) (fun r9 h2 q9 => ?_)
  obtain ⟨rfl, hg9⟩ := q9
  change J g mL_law 21 0 0 _ _ _ _ (.int x9 :: .int x9 :: [])
  refine j_icmp_eq (pc := 312) (tgt := 808) dL_law_312 rfl (fun _ => ?_) (fun zc312 => absurd rfl zc312)
  exact ih _ (hG9 _ hg9)

set_option maxRecDepth 20000 in
set_option maxHeartbeats 200000 in
theorem la_lays {h : List AC} {k : Nat} (hL : L ≤ 2048) (hk : k + 3 < L) (hG : Good (11, iv L xs) h) (ih : ∀ h2 : List AC, Good (11, iv L xs) h2 → J g mL_law 21 0 0 QL h2 808 [some (.ref 0), some (.ref 1), some (.ref 129), some (.int (nI k))] []) : J g mL_law 21 0 0 QL h 317 [some (.ref 0), some (.ref 1), some (.ref 129), some (.int (nI k))] [] := by
  obtain ⟨v9, h9, G9, hG9, ⟨hv9, a0, ⟨f6, a1⟩, ⟨f7, a7⟩⟩, c1, c2⟩ := pg_lays (g := g) (a1 := xs (k + 1)) hG
  obtain ⟨b0, ⟨g6, b1⟩, _⟩ := Good_at hG
  obtain ⟨x9, rfl⟩ : ∃ x9, v9 = .int x9 := by
    rcases hv9 with ⟨e9, x9, q9⟩ | ⟨e9, x9, q9⟩
    · exact ⟨x9, q9⟩
    · exact absurd e9 (by decide)
  refine j_aload_n (pc := 317) dL_law_317 rfl ?_
  refine j_aload_n (pc := 318) dL_law_318 rfl ?_
  refine j_iload_n (pc := 319) dL_law_319 rfl ?_
  refine j_iconst (pc := 320) dL_law_320 kc_1 ?_
  refine j_iadd (pc := 321) dL_law_321 ?_
  refine j_ialdE (pc := 322) dL_law_322 b0 rfl (nIa k 1) (by omega) (by omega) ?_
  refine j_v1 (pc := 323) (ci := 6) dL_law_323 mc_X6_lays ml_L_44 im_X6_lays se_X6_lays rfl rfl b1 (by omega) (c1) (Nat.le_of_ble_eq_true rfl) ?_
  refine j_aload_n (pc := 326) dL_law_326 rfl ?_
  refine j_aload_n (pc := 327) dL_law_327 rfl ?_
  refine j_iload_n (pc := 328) dL_law_328 rfl ?_
  refine j_iconst (pc := 329) dL_law_329 kc_1 ?_
  refine j_iadd (pc := 330) dL_law_330 ?_
  refine j_ialdE (pc := 331) dL_law_331 a0 rfl (nIa k 1) (by omega) (by omega) ?_
  refine j_v1g (pc := 332) (ci := 7) dL_law_332 mc_X7_lays ml_L_47 im_X7_lays se_X7_lays rfl rfl a7 (by omega) (c2) (Nat.le_of_ble_eq_true rfl) (fun r9 h2 q9 => ?_)
  obtain ⟨rfl, hg9⟩ := q9
  change J g mL_law 21 0 0 _ _ _ _ (.int x9 :: .int x9 :: [])
  refine j_icmp_eq (pc := 335) (tgt := 808) dL_law_335 rfl (fun _ => ?_) (fun zc335 => absurd rfl zc335)
  exact ih _ (hG9 _ hg9)

set_option maxRecDepth 20000 in
set_option maxHeartbeats 200000 in
theorem la_thumbs {h : List AC} {k : Nat} (hL : L ≤ 2048) (hk : k + 3 < L) (hG : Good (11, iv L xs) h) (ih : ∀ h2 : List AC, Good (11, iv L xs) h2 → J g mL_law 21 0 0 QL h2 808 [some (.ref 0), some (.ref 1), some (.ref 129), some (.int (nI k))] []) : J g mL_law 21 0 0 QL h 340 [some (.ref 0), some (.ref 1), some (.ref 129), some (.int (nI k))] [] := by
  obtain ⟨v9, h9, G9, hG9, ⟨hv9, a0, ⟨f6, a1⟩, ⟨f7, a7⟩⟩, c1, c2⟩ := pg_thumbs (g := g) (a1 := xs (k + 1)) hG
  obtain ⟨b0, ⟨g6, b1⟩, _⟩ := Good_at hG
  obtain ⟨x9, rfl⟩ : ∃ x9, v9 = .int x9 := by
    rcases hv9 with ⟨e9, x9, q9⟩ | ⟨e9, x9, q9⟩
    · exact ⟨x9, q9⟩
    · exact absurd e9 (by decide)
  refine j_aload_n (pc := 340) dL_law_340 rfl ?_
  refine j_aload_n (pc := 341) dL_law_341 rfl ?_
  refine j_iload_n (pc := 342) dL_law_342 rfl ?_
  refine j_iconst (pc := 343) dL_law_343 kc_1 ?_
  refine j_iadd (pc := 344) dL_law_344 ?_
  refine j_ialdE (pc := 345) dL_law_345 b0 rfl (nIa k 1) (by omega) (by omega) ?_
  refine j_v1 (pc := 346) (ci := 6) dL_law_346 mc_X6_thumbs ml_L_48 im_X6_thumbs se_X6_thumbs rfl rfl b1 (by omega) (c1) (Nat.le_of_ble_eq_true rfl) ?_
  refine j_aload_n (pc := 349) dL_law_349 rfl ?_
  refine j_aload_n (pc := 350) dL_law_350 rfl ?_
  refine j_iload_n (pc := 351) dL_law_351 rfl ?_
  refine j_iconst (pc := 352) dL_law_352 kc_1 ?_
  refine j_iadd (pc := 353) dL_law_353 ?_
  refine j_ialdE (pc := 354) dL_law_354 a0 rfl (nIa k 1) (by omega) (by omega) ?_
  refine j_v1g (pc := 355) (ci := 7) dL_law_355 mc_X7_thumbs ml_L_51 im_X7_thumbs se_X7_thumbs rfl rfl a7 (by omega) (c2) (Nat.le_of_ble_eq_true rfl) (fun r9 h2 q9 => ?_)
  obtain ⟨rfl, hg9⟩ := q9
  change J g mL_law 21 0 0 _ _ _ _ (.int x9 :: .int x9 :: [])
  refine j_icmp_eq (pc := 358) (tgt := 808) dL_law_358 rfl (fun _ => ?_) (fun zc358 => absurd rfl zc358)
  exact ih _ (hG9 _ hg9)

set_option maxRecDepth 20000 in
set_option maxHeartbeats 200000 in
theorem la_adorns {h : List AC} {k : Nat} (hL : L ≤ 2048) (hk : k + 3 < L) (hG : Good (11, iv L xs) h) (ih : ∀ h2 : List AC, Good (11, iv L xs) h2 → J g mL_law 21 0 0 QL h2 808 [some (.ref 0), some (.ref 1), some (.ref 129), some (.int (nI k))] []) : J g mL_law 21 0 0 QL h 363 [some (.ref 0), some (.ref 1), some (.ref 129), some (.int (nI k))] [] := by
  obtain ⟨v9, h9, G9, hG9, ⟨hv9, a0, ⟨f6, a1⟩, ⟨f7, a7⟩⟩, c1, c2⟩ := pg_adorns (g := g) (a1 := xs (k + 1)) (a2 := xs (k + 2)) hG
  obtain ⟨b0, ⟨g6, b1⟩, _⟩ := Good_at hG
  obtain ⟨x9, rfl⟩ : ∃ x9, v9 = .int x9 := by
    rcases hv9 with ⟨e9, x9, q9⟩ | ⟨e9, x9, q9⟩
    · exact ⟨x9, q9⟩
    · exact absurd e9 (by decide)
  refine j_aload_n (pc := 363) dL_law_363 rfl ?_
  refine j_aload_n (pc := 364) dL_law_364 rfl ?_
  refine j_iload_n (pc := 365) dL_law_365 rfl ?_
  refine j_iconst (pc := 366) dL_law_366 kc_1 ?_
  refine j_iadd (pc := 367) dL_law_367 ?_
  refine j_ialdE (pc := 368) dL_law_368 b0 rfl (nIa k 1) (by omega) (by omega) ?_
  refine j_aload_n (pc := 369) dL_law_369 rfl ?_
  refine j_iload_n (pc := 370) dL_law_370 rfl ?_
  refine j_iconst (pc := 371) dL_law_371 kc_2 ?_
  refine j_iadd (pc := 372) dL_law_372 ?_
  refine j_ialdE (pc := 373) dL_law_373 b0 rfl (nIa k 2) (by omega) (by omega) ?_
  refine j_v2 (pc := 374) (ci := 6) dL_law_374 mc_X6_adorns ml_L_52 im_X6_adorns se_X6_adorns rfl rfl b1 (by omega) (c1) (Nat.le_of_ble_eq_true rfl) ?_
  refine j_aload_n (pc := 377) dL_law_377 rfl ?_
  refine j_aload_n (pc := 378) dL_law_378 rfl ?_
  refine j_iload_n (pc := 379) dL_law_379 rfl ?_
  refine j_iconst (pc := 380) dL_law_380 kc_1 ?_
  refine j_iadd (pc := 381) dL_law_381 ?_
  refine j_ialdE (pc := 382) dL_law_382 a0 rfl (nIa k 1) (by omega) (by omega) ?_
  refine j_aload_n (pc := 383) dL_law_383 rfl ?_
  refine j_iload_n (pc := 384) dL_law_384 rfl ?_
  refine j_iconst (pc := 385) dL_law_385 kc_2 ?_
  refine j_iadd (pc := 386) dL_law_386 ?_
  refine j_ialdE (pc := 387) dL_law_387 a0 rfl (nIa k 2) (by omega) (by omega) ?_
  refine j_v2g (pc := 388) (ci := 7) dL_law_388 mc_X7_adorns ml_L_55 im_X7_adorns se_X7_adorns rfl rfl a7 (by omega) (c2) (Nat.le_of_ble_eq_true rfl) (fun r9 h2 q9 => ?_)
  obtain ⟨rfl, hg9⟩ := q9
  change J g mL_law 21 0 0 _ _ _ _ (.int x9 :: .int x9 :: [])
  refine j_icmp_eq (pc := 391) (tgt := 808) dL_law_391 rfl (fun _ => ?_) (fun zc391 => absurd rfl zc391)
  exact ih _ (hG9 _ hg9)

set_option maxRecDepth 20000 in
set_option maxHeartbeats 200000 in
theorem la_sins {h : List AC} {k : Nat} (hL : L ≤ 2048) (hk : k + 3 < L) (hG : Good (11, iv L xs) h) (ih : ∀ h2 : List AC, Good (11, iv L xs) h2 → J g mL_law 21 0 0 QL h2 808 [some (.ref 0), some (.ref 1), some (.ref 129), some (.int (nI k))] []) : J g mL_law 21 0 0 QL h 396 [some (.ref 0), some (.ref 1), some (.ref 129), some (.int (nI k))] [] := by
  obtain ⟨v9, h9, G9, hG9, ⟨hv9, a0, ⟨f6, a1⟩, ⟨f7, a7⟩⟩, c1, c2⟩ := pg_sins (g := g) (a1 := xs (k + 1)) (a2 := xs (k + 2)) hG
  obtain ⟨b0, ⟨g6, b1⟩, _⟩ := Good_at hG
  obtain ⟨x9, rfl⟩ : ∃ x9, v9 = .int x9 := by
    rcases hv9 with ⟨e9, x9, q9⟩ | ⟨e9, x9, q9⟩
    · exact ⟨x9, q9⟩
    · exact absurd e9 (by decide)
  refine j_aload_n (pc := 396) dL_law_396 rfl ?_
  refine j_aload_n (pc := 397) dL_law_397 rfl ?_
  refine j_iload_n (pc := 398) dL_law_398 rfl ?_
  refine j_iconst (pc := 399) dL_law_399 kc_1 ?_
  refine j_iadd (pc := 400) dL_law_400 ?_
  refine j_ialdE (pc := 401) dL_law_401 b0 rfl (nIa k 1) (by omega) (by omega) ?_
  refine j_aload_n (pc := 402) dL_law_402 rfl ?_
  refine j_iload_n (pc := 403) dL_law_403 rfl ?_
  refine j_iconst (pc := 404) dL_law_404 kc_2 ?_
  refine j_iadd (pc := 405) dL_law_405 ?_
  refine j_ialdE (pc := 406) dL_law_406 b0 rfl (nIa k 2) (by omega) (by omega) ?_
  refine j_v2 (pc := 407) (ci := 6) dL_law_407 mc_X6_sins ml_L_56 im_X6_sins se_X6_sins rfl rfl b1 (by omega) (c1) (Nat.le_of_ble_eq_true rfl) ?_
  refine j_aload_n (pc := 410) dL_law_410 rfl ?_
  refine j_aload_n (pc := 411) dL_law_411 rfl ?_
  refine j_iload_n (pc := 412) dL_law_412 rfl ?_
  refine j_iconst (pc := 413) dL_law_413 kc_1 ?_
  refine j_iadd (pc := 414) dL_law_414 ?_
  refine j_ialdE (pc := 415) dL_law_415 a0 rfl (nIa k 1) (by omega) (by omega) ?_
  refine j_aload_n (pc := 416) dL_law_416 rfl ?_
  refine j_iload_n (pc := 417) dL_law_417 rfl ?_
  refine j_iconst (pc := 418) dL_law_418 kc_2 ?_
  refine j_iadd (pc := 419) dL_law_419 ?_
  refine j_ialdE (pc := 420) dL_law_420 a0 rfl (nIa k 2) (by omega) (by omega) ?_
  refine j_v2g (pc := 421) (ci := 7) dL_law_421 mc_X7_sins ml_L_59 im_X7_sins se_X7_sins rfl rfl a7 (by omega) (c2) (Nat.le_of_ble_eq_true rfl) (fun r9 h2 q9 => ?_)
  obtain ⟨rfl, hg9⟩ := q9
  change J g mL_law 21 0 0 _ _ _ _ (.int x9 :: .int x9 :: [])
  refine j_icmp_eq (pc := 424) (tgt := 808) dL_law_424 rfl (fun _ => ?_) (fun zc424 => absurd rfl zc424)
  exact ih _ (hG9 _ hg9)

set_option maxRecDepth 20000 in
set_option maxHeartbeats 200000 in
theorem la_oils {h : List AC} {k : Nat} (hL : L ≤ 2048) (hk : k + 3 < L) (hG : Good (11, iv L xs) h) (ih : ∀ h2 : List AC, Good (11, iv L xs) h2 → J g mL_law 21 0 0 QL h2 808 [some (.ref 0), some (.ref 1), some (.ref 129), some (.int (nI k))] []) : J g mL_law 21 0 0 QL h 429 [some (.ref 0), some (.ref 1), some (.ref 129), some (.int (nI k))] [] := by
  obtain ⟨v9, h9, G9, hG9, ⟨hv9, a0, ⟨f6, a1⟩, ⟨f7, a7⟩⟩, c1, c2⟩ := pg_oils (g := g) (a1 := xs (k + 1)) hG
  obtain ⟨b0, ⟨g6, b1⟩, _⟩ := Good_at hG
  obtain ⟨x9, rfl⟩ : ∃ x9, v9 = .int x9 := by
    rcases hv9 with ⟨e9, x9, q9⟩ | ⟨e9, x9, q9⟩
    · exact ⟨x9, q9⟩
    · exact absurd e9 (by decide)
  refine j_aload_n (pc := 429) dL_law_429 rfl ?_
  refine j_aload_n (pc := 430) dL_law_430 rfl ?_
  refine j_iload_n (pc := 431) dL_law_431 rfl ?_
  refine j_iconst (pc := 432) dL_law_432 kc_1 ?_
  refine j_iadd (pc := 433) dL_law_433 ?_
  refine j_ialdE (pc := 434) dL_law_434 b0 rfl (nIa k 1) (by omega) (by omega) ?_
  refine j_v1 (pc := 435) (ci := 6) dL_law_435 mc_X6_oils ml_L_60 im_X6_oils se_X6_oils rfl rfl b1 (by omega) (c1) (Nat.le_of_ble_eq_true rfl) ?_
  refine j_aload_n (pc := 438) dL_law_438 rfl ?_
  refine j_aload_n (pc := 439) dL_law_439 rfl ?_
  refine j_iload_n (pc := 440) dL_law_440 rfl ?_
  refine j_iconst (pc := 441) dL_law_441 kc_1 ?_
  refine j_iadd (pc := 442) dL_law_442 ?_
  refine j_ialdE (pc := 443) dL_law_443 a0 rfl (nIa k 1) (by omega) (by omega) ?_
  refine j_v1g (pc := 444) (ci := 7) dL_law_444 mc_X7_oils ml_L_63 im_X7_oils se_X7_oils rfl rfl a7 (by omega) (c2) (Nat.le_of_ble_eq_true rfl) (fun r9 h2 q9 => ?_)
  obtain ⟨rfl, hg9⟩ := q9
  change J g mL_law 21 0 0 _ _ _ _ (.int x9 :: .int x9 :: [])
  refine j_icmp_eq (pc := 447) (tgt := 808) dL_law_447 rfl (fun _ => ?_) (fun zc447 => absurd rfl zc447)
  exact ih _ (hG9 _ hg9)

set_option maxRecDepth 20000 in
set_option maxHeartbeats 200000 in
theorem la_year {h : List AC} {k : Nat} (hL : L ≤ 2048) (hk : k + 3 < L) (hG : Good (11, iv L xs) h) (ih : ∀ h2 : List AC, Good (11, iv L xs) h2 → J g mL_law 21 0 0 QL h2 808 [some (.ref 0), some (.ref 1), some (.ref 129), some (.int (nI k))] []) : J g mL_law 21 0 0 QL h 452 [some (.ref 0), some (.ref 1), some (.ref 129), some (.int (nI k))] [] := by
  obtain ⟨v9, h9, G9, hG9, ⟨hv9, a0, ⟨f6, a1⟩, ⟨f7, a7⟩⟩, c1, c2⟩ := pg_year (g := g)  hG
  obtain ⟨b0, ⟨g6, b1⟩, _⟩ := Good_at hG
  obtain ⟨x9, rfl⟩ : ∃ x9, v9 = .int x9 := by
    rcases hv9 with ⟨e9, x9, q9⟩ | ⟨e9, x9, q9⟩
    · exact ⟨x9, q9⟩
    · exact absurd e9 (by decide)
  refine j_aload_n (pc := 452) dL_law_452 rfl ?_
  refine j_v0 (pc := 453) (ci := 6) dL_law_453 mc_X6_year ml_L_64 im_X6_year se_X6_year rfl rfl b1 (by omega) (c1) (Nat.le_of_ble_eq_true rfl) ?_
  refine j_aload_n (pc := 456) dL_law_456 rfl ?_
  refine j_v0g (pc := 457) (ci := 7) dL_law_457 mc_X7_year ml_L_67 im_X7_year se_X7_year rfl rfl a7 (by omega) (c2) (Nat.le_of_ble_eq_true rfl) (fun r9 h2 q9 => ?_)
  obtain ⟨rfl, hg9⟩ := q9
  change J g mL_law 21 0 0 _ _ _ _ (.int x9 :: .int x9 :: [])
  refine j_icmp_eq (pc := 460) (tgt := 808) dL_law_460 rfl (fun _ => ?_) (fun zc460 => absurd rfl zc460)
  exact ih _ (hG9 _ hg9)

set_option maxRecDepth 20000 in
set_option maxHeartbeats 200000 in
theorem la_undo {h : List AC} {k : Nat} (hL : L ≤ 2048) (hk : k + 3 < L) (hG : Good (11, iv L xs) h) (ih : ∀ h2 : List AC, Good (11, iv L xs) h2 → J g mL_law 21 0 0 QL h2 808 [some (.ref 0), some (.ref 1), some (.ref 129), some (.int (nI k))] []) : J g mL_law 21 0 0 QL h 465 [some (.ref 0), some (.ref 1), some (.ref 129), some (.int (nI k))] [] := by
  obtain ⟨v9, h9, G9, hG9, ⟨hv9, a0, ⟨f6, a1⟩, ⟨f7, a7⟩⟩, c1, c2⟩ := pg_undo (g := g)  hG
  obtain ⟨b0, ⟨g6, b1⟩, _⟩ := Good_at hG
  obtain ⟨x9, rfl⟩ : ∃ x9, v9 = .int x9 := by
    rcases hv9 with ⟨e9, x9, q9⟩ | ⟨e9, x9, q9⟩
    · exact ⟨x9, q9⟩
    · exact absurd e9 (by decide)
  refine j_aload_n (pc := 465) dL_law_465 rfl ?_
  refine j_v0 (pc := 466) (ci := 6) dL_law_466 mc_X6_undo ml_L_68 im_X6_undo se_X6_undo rfl rfl b1 (by omega) (c1) (Nat.le_of_ble_eq_true rfl) ?_
  refine j_aload_n (pc := 469) dL_law_469 rfl ?_
  refine j_v0g (pc := 470) (ci := 7) dL_law_470 mc_X7_undo ml_L_71 im_X7_undo se_X7_undo rfl rfl a7 (by omega) (c2) (Nat.le_of_ble_eq_true rfl) (fun r9 h2 q9 => ?_)
  obtain ⟨rfl, hg9⟩ := q9
  change J g mL_law 21 0 0 _ _ _ _ (.int x9 :: .int x9 :: [])
  refine j_icmp_eq (pc := 473) (tgt := 808) dL_law_473 rfl (fun _ => ?_) (fun zc473 => absurd rfl zc473)
  exact ih _ (hG9 _ hg9)

set_option maxRecDepth 20000 in
set_option maxHeartbeats 200000 in
theorem la_order {h : List AC} {k : Nat} (hL : L ≤ 2048) (hk : k + 3 < L) (hG : Good (11, iv L xs) h) (ih : ∀ h2 : List AC, Good (11, iv L xs) h2 → J g mL_law 21 0 0 QL h2 808 [some (.ref 0), some (.ref 1), some (.ref 129), some (.int (nI k))] []) : J g mL_law 21 0 0 QL h 478 [some (.ref 0), some (.ref 1), some (.ref 129), some (.int (nI k))] [] := by
  obtain ⟨v9, h9, G9, hG9, ⟨hv9, a0, ⟨f6, a1⟩, ⟨f7, a7⟩⟩, c1, c2⟩ := pg_order (g := g) (a1 := xs (k + 1)) hG
  obtain ⟨b0, ⟨g6, b1⟩, _⟩ := Good_at hG
  obtain ⟨x9, rfl⟩ : ∃ x9, v9 = .int x9 := by
    rcases hv9 with ⟨e9, x9, q9⟩ | ⟨e9, x9, q9⟩
    · exact ⟨x9, q9⟩
    · exact absurd e9 (by decide)
  refine j_aload_n (pc := 478) dL_law_478 rfl ?_
  refine j_aload_n (pc := 479) dL_law_479 rfl ?_
  refine j_iload_n (pc := 480) dL_law_480 rfl ?_
  refine j_iconst (pc := 481) dL_law_481 kc_1 ?_
  refine j_iadd (pc := 482) dL_law_482 ?_
  refine j_ialdE (pc := 483) dL_law_483 b0 rfl (nIa k 1) (by omega) (by omega) ?_
  refine j_v1 (pc := 484) (ci := 6) dL_law_484 mc_X6_order ml_L_72 im_X6_order se_X6_order rfl rfl b1 (by omega) (c1) (Nat.le_of_ble_eq_true rfl) ?_
  refine j_aload_n (pc := 487) dL_law_487 rfl ?_
  refine j_aload_n (pc := 488) dL_law_488 rfl ?_
  refine j_iload_n (pc := 489) dL_law_489 rfl ?_
  refine j_iconst (pc := 490) dL_law_490 kc_1 ?_
  refine j_iadd (pc := 491) dL_law_491 ?_
  refine j_ialdE (pc := 492) dL_law_492 a0 rfl (nIa k 1) (by omega) (by omega) ?_
  refine j_v1g (pc := 493) (ci := 7) dL_law_493 mc_X7_order ml_L_75 im_X7_order se_X7_order rfl rfl a7 (by omega) (c2) (Nat.le_of_ble_eq_true rfl) (fun r9 h2 q9 => ?_)
  obtain ⟨rfl, hg9⟩ := q9
  change J g mL_law 21 0 0 _ _ _ _ (.int x9 :: .int x9 :: [])
  refine j_icmp_eq (pc := 496) (tgt := 808) dL_law_496 rfl (fun _ => ?_) (fun zc496 => absurd rfl zc496)
  exact ih _ (hG9 _ hg9)

set_option maxRecDepth 20000 in
set_option maxHeartbeats 200000 in
theorem la_tells {h : List AC} {k : Nat} (hL : L ≤ 2048) (hk : k + 3 < L) (hG : Good (11, iv L xs) h) (ih : ∀ h2 : List AC, Good (11, iv L xs) h2 → J g mL_law 21 0 0 QL h2 808 [some (.ref 0), some (.ref 1), some (.ref 129), some (.int (nI k))] []) : J g mL_law 21 0 0 QL h 501 [some (.ref 0), some (.ref 1), some (.ref 129), some (.int (nI k))] [] := by
  obtain ⟨v9, h9, G9, hG9, ⟨hv9, a0, ⟨f6, a1⟩, ⟨f7, a7⟩⟩, c1, c2⟩ := pg_tells (g := g) (a1 := xs (k + 1)) (a2 := xs (k + 2)) hG
  obtain ⟨b0, ⟨g6, b1⟩, _⟩ := Good_at hG
  obtain ⟨x9, rfl⟩ : ∃ x9, v9 = .int x9 := by
    rcases hv9 with ⟨e9, x9, q9⟩ | ⟨e9, x9, q9⟩
    · exact ⟨x9, q9⟩
    · exact absurd e9 (by decide)
  refine j_aload_n (pc := 501) dL_law_501 rfl ?_
  refine j_aload_n (pc := 502) dL_law_502 rfl ?_
  refine j_iload_n (pc := 503) dL_law_503 rfl ?_
  refine j_iconst (pc := 504) dL_law_504 kc_1 ?_
  refine j_iadd (pc := 505) dL_law_505 ?_
  refine j_ialdE (pc := 506) dL_law_506 b0 rfl (nIa k 1) (by omega) (by omega) ?_
  refine j_aload_n (pc := 507) dL_law_507 rfl ?_
  refine j_iload_n (pc := 508) dL_law_508 rfl ?_
  refine j_iconst (pc := 509) dL_law_509 kc_2 ?_
  refine j_iadd (pc := 510) dL_law_510 ?_
  refine j_ialdE (pc := 511) dL_law_511 b0 rfl (nIa k 2) (by omega) (by omega) ?_
  refine j_v2 (pc := 512) (ci := 6) dL_law_512 mc_X6_tells ml_L_76 im_X6_tells se_X6_tells rfl rfl b1 (by omega) (c1) (Nat.le_of_ble_eq_true rfl) ?_
  refine j_aload_n (pc := 515) dL_law_515 rfl ?_
  refine j_aload_n (pc := 516) dL_law_516 rfl ?_
  refine j_iload_n (pc := 517) dL_law_517 rfl ?_
  refine j_iconst (pc := 518) dL_law_518 kc_1 ?_
  refine j_iadd (pc := 519) dL_law_519 ?_
  refine j_ialdE (pc := 520) dL_law_520 a0 rfl (nIa k 1) (by omega) (by omega) ?_
  refine j_aload_n (pc := 521) dL_law_521 rfl ?_
  refine j_iload_n (pc := 522) dL_law_522 rfl ?_
  refine j_iconst (pc := 523) dL_law_523 kc_2 ?_
  refine j_iadd (pc := 524) dL_law_524 ?_
  refine j_ialdE (pc := 525) dL_law_525 a0 rfl (nIa k 2) (by omega) (by omega) ?_
  refine j_v2g (pc := 526) (ci := 7) dL_law_526 mc_X7_tells ml_L_79 im_X7_tells se_X7_tells rfl rfl a7 (by omega) (c2) (Nat.le_of_ble_eq_true rfl) (fun r9 h2 q9 => ?_)
  obtain ⟨rfl, hg9⟩ := q9
  change J g mL_law 21 0 0 _ _ _ _ (.int x9 :: .int x9 :: [])
  refine j_icmp_eq (pc := 529) (tgt := 808) dL_law_529 rfl (fun _ => ?_) (fun zc529 => absurd rfl zc529)
  exact ih _ (hG9 _ hg9)

set_option maxRecDepth 20000 in
set_option maxHeartbeats 200000 in
theorem la_forget {h : List AC} {k : Nat} (hL : L ≤ 2048) (hk : k + 3 < L) (hG : Good (11, iv L xs) h) (ih : ∀ h2 : List AC, Good (11, iv L xs) h2 → J g mL_law 21 0 0 QL h2 808 [some (.ref 0), some (.ref 1), some (.ref 129), some (.int (nI k))] []) : J g mL_law 21 0 0 QL h 534 [some (.ref 0), some (.ref 1), some (.ref 129), some (.int (nI k))] [] := by
  obtain ⟨v9, h9, G9, hG9, ⟨hv9, a0, ⟨f6, a1⟩, ⟨f7, a7⟩⟩, c1, c2⟩ := pg_forget (g := g)  hG
  obtain ⟨b0, ⟨g6, b1⟩, _⟩ := Good_at hG
  obtain ⟨x9, rfl⟩ : ∃ x9, v9 = .int x9 := by
    rcases hv9 with ⟨e9, x9, q9⟩ | ⟨e9, x9, q9⟩
    · exact ⟨x9, q9⟩
    · exact absurd e9 (by decide)
  refine j_aload_n (pc := 534) dL_law_534 rfl ?_
  refine j_v0 (pc := 535) (ci := 6) dL_law_535 mc_X6_forget ml_L_80 im_X6_forget se_X6_forget rfl rfl b1 (by omega) (c1) (Nat.le_of_ble_eq_true rfl) ?_
  refine j_aload_n (pc := 538) dL_law_538 rfl ?_
  refine j_v0g (pc := 539) (ci := 7) dL_law_539 mc_X7_forget ml_L_83 im_X7_forget se_X7_forget rfl rfl a7 (by omega) (c2) (Nat.le_of_ble_eq_true rfl) (fun r9 h2 q9 => ?_)
  obtain ⟨rfl, hg9⟩ := q9
  change J g mL_law 21 0 0 _ _ _ _ (.int x9 :: .int x9 :: [])
  refine j_icmp_eq (pc := 542) (tgt := 808) dL_law_542 rfl (fun _ => ?_) (fun zc542 => absurd rfl zc542)
  exact ih _ (hG9 _ hg9)

set_option maxRecDepth 20000 in
set_option maxHeartbeats 200000 in
theorem la_can {h : List AC} {k : Nat} (hL : L ≤ 2048) (hk : k + 3 < L) (hG : Good (11, iv L xs) h) (ih : ∀ h2 : List AC, Good (11, iv L xs) h2 → J g mL_law 21 0 0 QL h2 808 [some (.ref 0), some (.ref 1), some (.ref 129), some (.int (nI k))] []) : J g mL_law 21 0 0 QL h 547 [some (.ref 0), some (.ref 1), some (.ref 129), some (.int (nI k))] [] := by
  obtain ⟨v9, h9, G9, hG9, ⟨hv9, a0, ⟨f6, a1⟩, ⟨f7, a7⟩⟩, c1, c2⟩ := pg_can (g := g) (a1 := xs (k + 1)) hG
  obtain ⟨b0, ⟨g6, b1⟩, _⟩ := Good_at hG
  obtain ⟨x9, rfl⟩ : ∃ x9, v9 = .int x9 := by
    rcases hv9 with ⟨e9, x9, q9⟩ | ⟨e9, x9, q9⟩
    · exact ⟨x9, q9⟩
    · exact absurd e9 (by decide)
  refine j_aload_n (pc := 547) dL_law_547 rfl ?_
  refine j_aload_n (pc := 548) dL_law_548 rfl ?_
  refine j_iload_n (pc := 549) dL_law_549 rfl ?_
  refine j_iconst (pc := 550) dL_law_550 kc_1 ?_
  refine j_iadd (pc := 551) dL_law_551 ?_
  refine j_ialdE (pc := 552) dL_law_552 b0 rfl (nIa k 1) (by omega) (by omega) ?_
  refine j_v1 (pc := 553) (ci := 6) dL_law_553 mc_X6_can ml_L_84 im_X6_can se_X6_can rfl rfl b1 (by omega) (c1) (Nat.le_of_ble_eq_true rfl) ?_
  refine j_aload_n (pc := 556) dL_law_556 rfl ?_
  refine j_aload_n (pc := 557) dL_law_557 rfl ?_
  refine j_iload_n (pc := 558) dL_law_558 rfl ?_
  refine j_iconst (pc := 559) dL_law_559 kc_1 ?_
  refine j_iadd (pc := 560) dL_law_560 ?_
  refine j_ialdE (pc := 561) dL_law_561 a0 rfl (nIa k 1) (by omega) (by omega) ?_
  refine j_v1g (pc := 562) (ci := 7) dL_law_562 mc_X7_can ml_L_87 im_X7_can se_X7_can rfl rfl a7 (by omega) (c2) (Nat.le_of_ble_eq_true rfl) (fun r9 h2 q9 => ?_)
  obtain ⟨rfl, hg9⟩ := q9
  change J g mL_law 21 0 0 _ _ _ _ (.int x9 :: .int x9 :: [])
  refine j_icmp_eq (pc := 565) (tgt := 808) dL_law_565 rfl (fun _ => ?_) (fun zc565 => absurd rfl zc565)
  exact ih _ (hG9 _ hg9)

set_option maxRecDepth 20000 in
set_option maxHeartbeats 200000 in
theorem la_ask {h : List AC} {k : Nat} (hL : L ≤ 2048) (hk : k + 3 < L) (hG : Good (11, iv L xs) h) (ih : ∀ h2 : List AC, Good (11, iv L xs) h2 → J g mL_law 21 0 0 QL h2 808 [some (.ref 0), some (.ref 1), some (.ref 129), some (.int (nI k))] []) : J g mL_law 21 0 0 QL h 570 [some (.ref 0), some (.ref 1), some (.ref 129), some (.int (nI k))] [] := by
  obtain ⟨v9, h9, G9, hG9, ⟨hv9, a0, ⟨f6, a1⟩, ⟨f7, a7⟩⟩, c1, c2⟩ := pg_ask (g := g)  hG
  obtain ⟨b0, ⟨g6, b1⟩, _⟩ := Good_at hG
  obtain ⟨x9, rfl⟩ : ∃ x9, v9 = .int x9 := by
    rcases hv9 with ⟨e9, x9, q9⟩ | ⟨e9, x9, q9⟩
    · exact ⟨x9, q9⟩
    · exact absurd e9 (by decide)
  refine j_aload_n (pc := 570) dL_law_570 rfl ?_
  refine j_v0 (pc := 571) (ci := 6) dL_law_571 mc_X6_ask ml_L_88 im_X6_ask se_X6_ask rfl rfl b1 (by omega) (c1) (Nat.le_of_ble_eq_true rfl) ?_
  refine j_aload_n (pc := 574) dL_law_574 rfl ?_
  refine j_v0g (pc := 575) (ci := 7) dL_law_575 mc_X7_ask ml_L_91 im_X7_ask se_X7_ask rfl rfl a7 (by omega) (c2) (Nat.le_of_ble_eq_true rfl) (fun r9 h2 q9 => ?_)
  obtain ⟨rfl, hg9⟩ := q9
  change J g mL_law 21 0 0 _ _ _ _ (.int x9 :: .int x9 :: [])
  refine j_icmp_eq (pc := 578) (tgt := 808) dL_law_578 rfl (fun _ => ?_) (fun zc578 => absurd rfl zc578)
  exact ih _ (hG9 _ hg9)

set_option maxRecDepth 20000 in
set_option maxHeartbeats 200000 in
theorem la_life {h : List AC} {k : Nat} (hL : L ≤ 2048) (hk : k + 3 < L) (hG : Good (11, iv L xs) h) (ih : ∀ h2 : List AC, Good (11, iv L xs) h2 → J g mL_law 21 0 0 QL h2 808 [some (.ref 0), some (.ref 1), some (.ref 129), some (.int (nI k))] []) : J g mL_law 21 0 0 QL h 583 [some (.ref 0), some (.ref 1), some (.ref 129), some (.int (nI k))] [] := by
  obtain ⟨v9, h9, G9, hG9, ⟨hv9, a0, ⟨f6, a1⟩, ⟨f7, a7⟩⟩, c1, c2⟩ := pg_life (g := g) (a1 := xs (k + 1)) (a2 := xs (k + 2)) hG
  obtain ⟨b0, ⟨g6, b1⟩, _⟩ := Good_at hG
  obtain ⟨x9, rfl⟩ : ∃ x9, v9 = .int x9 := by
    rcases hv9 with ⟨e9, x9, q9⟩ | ⟨e9, x9, q9⟩
    · exact ⟨x9, q9⟩
    · exact absurd e9 (by decide)
  refine j_aload_n (pc := 583) dL_law_583 rfl ?_
  refine j_aload_n (pc := 584) dL_law_584 rfl ?_
  refine j_iload_n (pc := 585) dL_law_585 rfl ?_
  refine j_iconst (pc := 586) dL_law_586 kc_1 ?_
  refine j_iadd (pc := 587) dL_law_587 ?_
  refine j_ialdE (pc := 588) dL_law_588 b0 rfl (nIa k 1) (by omega) (by omega) ?_
  refine j_aload_n (pc := 589) dL_law_589 rfl ?_
  refine j_iload_n (pc := 590) dL_law_590 rfl ?_
  refine j_iconst (pc := 591) dL_law_591 kc_2 ?_
  refine j_iadd (pc := 592) dL_law_592 ?_
  refine j_ialdE (pc := 593) dL_law_593 b0 rfl (nIa k 2) (by omega) (by omega) ?_
  refine j_v2 (pc := 594) (ci := 6) dL_law_594 mc_X6_life ml_L_92 im_X6_life se_X6_life rfl rfl b1 (by omega) (c1) (Nat.le_of_ble_eq_true rfl) ?_
  refine j_aload_n (pc := 597) dL_law_597 rfl ?_
  refine j_aload_n (pc := 598) dL_law_598 rfl ?_
  refine j_iload_n (pc := 599) dL_law_599 rfl ?_
  refine j_iconst (pc := 600) dL_law_600 kc_1 ?_
  refine j_iadd (pc := 601) dL_law_601 ?_
  refine j_ialdE (pc := 602) dL_law_602 a0 rfl (nIa k 1) (by omega) (by omega) ?_
  refine j_aload_n (pc := 603) dL_law_603 rfl ?_
  refine j_iload_n (pc := 604) dL_law_604 rfl ?_
  refine j_iconst (pc := 605) dL_law_605 kc_2 ?_
  refine j_iadd (pc := 606) dL_law_606 ?_
  refine j_ialdE (pc := 607) dL_law_607 a0 rfl (nIa k 2) (by omega) (by omega) ?_
  refine j_v2g (pc := 608) (ci := 7) dL_law_608 mc_X7_life ml_L_95 im_X7_life se_X7_life rfl rfl a7 (by omega) (c2) (Nat.le_of_ble_eq_true rfl) (fun r9 h2 q9 => ?_)
  obtain ⟨rfl, hg9⟩ := q9
  change J g mL_law 21 0 0 _ _ _ _ (.int x9 :: .int x9 :: [])
  refine j_icmp_eq (pc := 611) (tgt := 808) dL_law_611 rfl (fun _ => ?_) (fun zc611 => absurd rfl zc611)
  exact ih _ (hG9 _ hg9)

set_option maxRecDepth 20000 in
set_option maxHeartbeats 200000 in
theorem la_carry {h : List AC} {k : Nat} (hL : L ≤ 2048) (hk : k + 3 < L) (hG : Good (11, iv L xs) h) (ih : ∀ h2 : List AC, Good (11, iv L xs) h2 → J g mL_law 21 0 0 QL h2 808 [some (.ref 0), some (.ref 1), some (.ref 129), some (.int (nI k))] []) : J g mL_law 21 0 0 QL h 616 [some (.ref 0), some (.ref 1), some (.ref 129), some (.int (nI k))] [] := by
  obtain ⟨v9, h9, G9, hG9, ⟨hv9, a0, ⟨f6, a1⟩, ⟨f7, a7⟩⟩, c1, c2⟩ := pg_carry (g := g) (a1 := xs (k + 1)) (a2 := xs (k + 2)) hG
  obtain ⟨b0, ⟨g6, b1⟩, _⟩ := Good_at hG
  obtain ⟨x9, rfl⟩ : ∃ x9, v9 = .int x9 := by
    rcases hv9 with ⟨e9, x9, q9⟩ | ⟨e9, x9, q9⟩
    · exact ⟨x9, q9⟩
    · exact absurd e9 (by decide)
  refine j_aload_n (pc := 616) dL_law_616 rfl ?_
  refine j_aload_n (pc := 617) dL_law_617 rfl ?_
  refine j_iload_n (pc := 618) dL_law_618 rfl ?_
  refine j_iconst (pc := 619) dL_law_619 kc_1 ?_
  refine j_iadd (pc := 620) dL_law_620 ?_
  refine j_ialdE (pc := 621) dL_law_621 b0 rfl (nIa k 1) (by omega) (by omega) ?_
  refine j_aload_n (pc := 622) dL_law_622 rfl ?_
  refine j_iload_n (pc := 623) dL_law_623 rfl ?_
  refine j_iconst (pc := 624) dL_law_624 kc_2 ?_
  refine j_iadd (pc := 625) dL_law_625 ?_
  refine j_ialdE (pc := 626) dL_law_626 b0 rfl (nIa k 2) (by omega) (by omega) ?_
  refine j_v2 (pc := 627) (ci := 6) dL_law_627 mc_X6_carry ml_L_96 im_X6_carry se_X6_carry rfl rfl b1 (by omega) (c1) (Nat.le_of_ble_eq_true rfl) ?_
  refine j_aload_n (pc := 630) dL_law_630 rfl ?_
  refine j_aload_n (pc := 631) dL_law_631 rfl ?_
  refine j_iload_n (pc := 632) dL_law_632 rfl ?_
  refine j_iconst (pc := 633) dL_law_633 kc_1 ?_
  refine j_iadd (pc := 634) dL_law_634 ?_
  refine j_ialdE (pc := 635) dL_law_635 a0 rfl (nIa k 1) (by omega) (by omega) ?_
  refine j_aload_n (pc := 636) dL_law_636 rfl ?_
  refine j_iload_n (pc := 637) dL_law_637 rfl ?_
  refine j_iconst (pc := 638) dL_law_638 kc_2 ?_
  refine j_iadd (pc := 639) dL_law_639 ?_
  refine j_ialdE (pc := 640) dL_law_640 a0 rfl (nIa k 2) (by omega) (by omega) ?_
  refine j_v2g (pc := 641) (ci := 7) dL_law_641 mc_X7_carry ml_L_99 im_X7_carry se_X7_carry rfl rfl a7 (by omega) (c2) (Nat.le_of_ble_eq_true rfl) (fun r9 h2 q9 => ?_)
  obtain ⟨rfl, hg9⟩ := q9
  change J g mL_law 21 0 0 _ _ _ _ (.int x9 :: .int x9 :: [])
  refine j_icmp_eq (pc := 644) (tgt := 808) dL_law_644 rfl (fun _ => ?_) (fun zc644 => absurd rfl zc644)
  exact ih _ (hG9 _ hg9)

set_option maxRecDepth 20000 in
set_option maxHeartbeats 200000 in
theorem la_odds {h : List AC} {k : Nat} (hL : L ≤ 2048) (hk : k + 3 < L) (hG : Good (11, iv L xs) h) (ih : ∀ h2 : List AC, Good (11, iv L xs) h2 → J g mL_law 21 0 0 QL h2 808 [some (.ref 0), some (.ref 1), some (.ref 129), some (.int (nI k))] []) : J g mL_law 21 0 0 QL h 649 [some (.ref 0), some (.ref 1), some (.ref 129), some (.int (nI k))] [] := by
  obtain ⟨v9, h9, G9, hG9, ⟨hv9, a0, ⟨f6, a1⟩, ⟨f7, a7⟩⟩, c1, c2⟩ := pg_odds (g := g) (a1 := xs (k + 1)) (a2 := xs (k + 2)) (a3 := xs (k + 3)) hG
  obtain ⟨b0, ⟨g6, b1⟩, _⟩ := Good_at hG
  obtain ⟨x9, rfl⟩ : ∃ x9, v9 = .int x9 := by
    rcases hv9 with ⟨e9, x9, q9⟩ | ⟨e9, x9, q9⟩
    · exact ⟨x9, q9⟩
    · exact absurd e9 (by decide)
  refine j_aload_n (pc := 649) dL_law_649 rfl ?_
  refine j_aload_n (pc := 650) dL_law_650 rfl ?_
  refine j_iload_n (pc := 651) dL_law_651 rfl ?_
  refine j_iconst (pc := 652) dL_law_652 kc_1 ?_
  refine j_iadd (pc := 653) dL_law_653 ?_
  refine j_ialdE (pc := 654) dL_law_654 b0 rfl (nIa k 1) (by omega) (by omega) ?_
  refine j_aload_n (pc := 655) dL_law_655 rfl ?_
  refine j_iload_n (pc := 656) dL_law_656 rfl ?_
  refine j_iconst (pc := 657) dL_law_657 kc_2 ?_
  refine j_iadd (pc := 658) dL_law_658 ?_
  refine j_ialdE (pc := 659) dL_law_659 b0 rfl (nIa k 2) (by omega) (by omega) ?_
  refine j_aload_n (pc := 660) dL_law_660 rfl ?_
  refine j_iload_n (pc := 661) dL_law_661 rfl ?_
  refine j_iconst (pc := 662) dL_law_662 kc_3 ?_
  refine j_iadd (pc := 663) dL_law_663 ?_
  refine j_ialdE (pc := 664) dL_law_664 b0 rfl (nIa k 3) (by omega) (by omega) ?_
  refine j_v3 (pc := 665) (ci := 6) dL_law_665 mc_X6_odds ml_L_100 im_X6_odds se_X6_odds rfl rfl b1 (by omega) (c1) (Nat.le_of_ble_eq_true rfl) ?_
  refine j_aload_n (pc := 668) dL_law_668 rfl ?_
  refine j_aload_n (pc := 669) dL_law_669 rfl ?_
  refine j_iload_n (pc := 670) dL_law_670 rfl ?_
  refine j_iconst (pc := 671) dL_law_671 kc_1 ?_
  refine j_iadd (pc := 672) dL_law_672 ?_
  refine j_ialdE (pc := 673) dL_law_673 a0 rfl (nIa k 1) (by omega) (by omega) ?_
  refine j_aload_n (pc := 674) dL_law_674 rfl ?_
  refine j_iload_n (pc := 675) dL_law_675 rfl ?_
  refine j_iconst (pc := 676) dL_law_676 kc_2 ?_
  refine j_iadd (pc := 677) dL_law_677 ?_
  refine j_ialdE (pc := 678) dL_law_678 a0 rfl (nIa k 2) (by omega) (by omega) ?_
  refine j_aload_n (pc := 679) dL_law_679 rfl ?_
  refine j_iload_n (pc := 680) dL_law_680 rfl ?_
  refine j_iconst (pc := 681) dL_law_681 kc_3 ?_
  refine j_iadd (pc := 682) dL_law_682 ?_
  refine j_ialdE (pc := 683) dL_law_683 a0 rfl (nIa k 3) (by omega) (by omega) ?_
  refine j_v3g (pc := 684) (ci := 7) dL_law_684 mc_X7_odds ml_L_104 im_X7_odds se_X7_odds rfl rfl a7 (by omega) (c2) (Nat.le_of_ble_eq_true rfl) (fun r9 h2 q9 => ?_)
  obtain ⟨rfl, hg9⟩ := q9
  change J g mL_law 21 0 0 _ _ _ _ (.int x9 :: .int x9 :: [])
  refine j_icmp_eq (pc := 687) (tgt := 808) dL_law_687 rfl (fun _ => ?_) (fun zc687 => absurd rfl zc687)
  exact ih _ (hG9 _ hg9)

set_option maxRecDepth 20000 in
set_option maxHeartbeats 200000 in
theorem la_rate {h : List AC} {k : Nat} (hL : L ≤ 2048) (hk : k + 3 < L) (hG : Good (11, iv L xs) h) (ih : ∀ h2 : List AC, Good (11, iv L xs) h2 → J g mL_law 21 0 0 QL h2 808 [some (.ref 0), some (.ref 1), some (.ref 129), some (.int (nI k))] []) : J g mL_law 21 0 0 QL h 692 [some (.ref 0), some (.ref 1), some (.ref 129), some (.int (nI k))] [] := by
  obtain ⟨v9, h9, G9, hG9, ⟨hv9, a0, ⟨f6, a1⟩, ⟨f7, a7⟩⟩, c1, c2⟩ := pg_rate (g := g) (a1 := xs (k + 1)) (a2 := xs (k + 2)) hG
  obtain ⟨b0, ⟨g6, b1⟩, _⟩ := Good_at hG
  obtain ⟨x9, rfl⟩ : ∃ x9, v9 = .int x9 := by
    rcases hv9 with ⟨e9, x9, q9⟩ | ⟨e9, x9, q9⟩
    · exact ⟨x9, q9⟩
    · exact absurd e9 (by decide)
  refine j_aload_n (pc := 692) dL_law_692 rfl ?_
  refine j_aload_n (pc := 693) dL_law_693 rfl ?_
  refine j_iload_n (pc := 694) dL_law_694 rfl ?_
  refine j_iconst (pc := 695) dL_law_695 kc_1 ?_
  refine j_iadd (pc := 696) dL_law_696 ?_
  refine j_ialdE (pc := 697) dL_law_697 b0 rfl (nIa k 1) (by omega) (by omega) ?_
  refine j_aload_n (pc := 698) dL_law_698 rfl ?_
  refine j_iload_n (pc := 699) dL_law_699 rfl ?_
  refine j_iconst (pc := 700) dL_law_700 kc_2 ?_
  refine j_iadd (pc := 701) dL_law_701 ?_
  refine j_ialdE (pc := 702) dL_law_702 b0 rfl (nIa k 2) (by omega) (by omega) ?_
  refine j_v2 (pc := 703) (ci := 6) dL_law_703 mc_X6_rate ml_L_105 im_X6_rate se_X6_rate rfl rfl b1 (by omega) (c1) (Nat.le_of_ble_eq_true rfl) ?_
  refine j_aload_n (pc := 706) dL_law_706 rfl ?_
  refine j_aload_n (pc := 707) dL_law_707 rfl ?_
  refine j_iload_n (pc := 708) dL_law_708 rfl ?_
  refine j_iconst (pc := 709) dL_law_709 kc_1 ?_
  refine j_iadd (pc := 710) dL_law_710 ?_
  refine j_ialdE (pc := 711) dL_law_711 a0 rfl (nIa k 1) (by omega) (by omega) ?_
  refine j_aload_n (pc := 712) dL_law_712 rfl ?_
  refine j_iload_n (pc := 713) dL_law_713 rfl ?_
  refine j_iconst (pc := 714) dL_law_714 kc_2 ?_
  refine j_iadd (pc := 715) dL_law_715 ?_
  refine j_ialdE (pc := 716) dL_law_716 a0 rfl (nIa k 2) (by omega) (by omega) ?_
  refine j_v2g (pc := 717) (ci := 7) dL_law_717 mc_X7_rate ml_L_108 im_X7_rate se_X7_rate rfl rfl a7 (by omega) (c2) (Nat.le_of_ble_eq_true rfl) (fun r9 h2 q9 => ?_)
  obtain ⟨rfl, hg9⟩ := q9
  change J g mL_law 21 0 0 _ _ _ _ (.int x9 :: .int x9 :: [])
  refine j_icmp_eq (pc := 720) (tgt := 808) dL_law_720 rfl (fun _ => ?_) (fun zc720 => absurd rfl zc720)
  exact ih _ (hG9 _ hg9)

set_option maxRecDepth 20000 in
set_option maxHeartbeats 200000 in
theorem la_keep {h : List AC} {k : Nat} (hL : L ≤ 2048) (hk : k + 3 < L) (hG : Good (11, iv L xs) h) (ih : ∀ h2 : List AC, Good (11, iv L xs) h2 → J g mL_law 21 0 0 QL h2 808 [some (.ref 0), some (.ref 1), some (.ref 129), some (.int (nI k))] []) : J g mL_law 21 0 0 QL h 725 [some (.ref 0), some (.ref 1), some (.ref 129), some (.int (nI k))] [] := by
  obtain ⟨v9, h9, G9, hG9, ⟨hv9, a0, ⟨f6, a1⟩, ⟨f7, a7⟩⟩, c1, c2⟩ := pg_keep (g := g) (a1 := xs (k + 1)) hG
  obtain ⟨b0, ⟨g6, b1⟩, _⟩ := Good_at hG
  obtain ⟨x9, rfl⟩ : ∃ x9, v9 = .int x9 := by
    rcases hv9 with ⟨e9, x9, q9⟩ | ⟨e9, x9, q9⟩
    · exact ⟨x9, q9⟩
    · exact absurd e9 (by decide)
  refine j_aload_n (pc := 725) dL_law_725 rfl ?_
  refine j_aload_n (pc := 726) dL_law_726 rfl ?_
  refine j_iload_n (pc := 727) dL_law_727 rfl ?_
  refine j_iconst (pc := 728) dL_law_728 kc_1 ?_
  refine j_iadd (pc := 729) dL_law_729 ?_
  refine j_ialdE (pc := 730) dL_law_730 b0 rfl (nIa k 1) (by omega) (by omega) ?_
  refine j_v1 (pc := 731) (ci := 6) dL_law_731 mc_X6_keep ml_L_109 im_X6_keep se_X6_keep rfl rfl b1 (by omega) (c1) (Nat.le_of_ble_eq_true rfl) ?_
  refine j_aload_n (pc := 734) dL_law_734 rfl ?_
  refine j_aload_n (pc := 735) dL_law_735 rfl ?_
  refine j_iload_n (pc := 736) dL_law_736 rfl ?_
  refine j_iconst (pc := 737) dL_law_737 kc_1 ?_
  refine j_iadd (pc := 738) dL_law_738 ?_
  refine j_ialdE (pc := 739) dL_law_739 a0 rfl (nIa k 1) (by omega) (by omega) ?_
  refine j_v1g (pc := 740) (ci := 7) dL_law_740 mc_X7_keep ml_L_112 im_X7_keep se_X7_keep rfl rfl a7 (by omega) (c2) (Nat.le_of_ble_eq_true rfl) (fun r9 h2 q9 => ?_)
  obtain ⟨rfl, hg9⟩ := q9
  change J g mL_law 21 0 0 _ _ _ _ (.int x9 :: .int x9 :: [])
  refine j_icmp_eq (pc := 743) (tgt := 808) dL_law_743 rfl (fun _ => ?_) (fun zc743 => absurd rfl zc743)
  exact ih _ (hG9 _ hg9)

set_option maxRecDepth 20000 in
set_option maxHeartbeats 200000 in
theorem la_back {h : List AC} {k : Nat} (hL : L ≤ 2048) (hk : k + 3 < L) (hG : Good (11, iv L xs) h) (ih : ∀ h2 : List AC, Good (11, iv L xs) h2 → J g mL_law 21 0 0 QL h2 808 [some (.ref 0), some (.ref 1), some (.ref 129), some (.int (nI k))] []) : J g mL_law 21 0 0 QL h 748 [some (.ref 0), some (.ref 1), some (.ref 129), some (.int (nI k))] [] := by
  obtain ⟨v9, h9, G9, hG9, ⟨hv9, a0, ⟨f6, a1⟩, ⟨f7, a7⟩⟩, c1, c2⟩ := pg_back (g := g) (a1 := xs (k + 1)) hG
  obtain ⟨b0, ⟨g6, b1⟩, _⟩ := Good_at hG
  obtain ⟨x9, rfl⟩ : ∃ x9, v9 = .int x9 := by
    rcases hv9 with ⟨e9, x9, q9⟩ | ⟨e9, x9, q9⟩
    · exact ⟨x9, q9⟩
    · exact absurd e9 (by decide)
  refine j_aload_n (pc := 748) dL_law_748 rfl ?_
  refine j_aload_n (pc := 749) dL_law_749 rfl ?_
  refine j_iload_n (pc := 750) dL_law_750 rfl ?_
  refine j_iconst (pc := 751) dL_law_751 kc_1 ?_
  refine j_iadd (pc := 752) dL_law_752 ?_
  refine j_ialdE (pc := 753) dL_law_753 b0 rfl (nIa k 1) (by omega) (by omega) ?_
  refine j_v1 (pc := 754) (ci := 6) dL_law_754 mc_X6_back ml_L_113 im_X6_back se_X6_back rfl rfl b1 (by omega) (c1) (Nat.le_of_ble_eq_true rfl) ?_
  refine j_aload_n (pc := 757) dL_law_757 rfl ?_
  refine j_aload_n (pc := 758) dL_law_758 rfl ?_
  refine j_iload_n (pc := 759) dL_law_759 rfl ?_
  refine j_iconst (pc := 760) dL_law_760 kc_1 ?_
  refine j_iadd (pc := 761) dL_law_761 ?_
  refine j_ialdE (pc := 762) dL_law_762 a0 rfl (nIa k 1) (by omega) (by omega) ?_
  refine j_v1g (pc := 763) (ci := 7) dL_law_763 mc_X7_back ml_L_116 im_X7_back se_X7_back rfl rfl a7 (by omega) (c2) (Nat.le_of_ble_eq_true rfl) (fun r9 h2 q9 => ?_)
  obtain ⟨rfl, hg9⟩ := q9
  change J g mL_law 21 0 0 _ _ _ _ (.int x9 :: .int x9 :: [])
  refine j_icmp_eq (pc := 766) (tgt := 808) dL_law_766 rfl (fun _ => ?_) (fun zc766 => absurd rfl zc766)
  exact ih _ (hG9 _ hg9)

set_option maxRecDepth 20000 in
set_option maxHeartbeats 200000 in
theorem la_count {h : List AC} {k : Nat} (hL : L ≤ 2048) (hk : k + 3 < L) (hG : Good (11, iv L xs) h) (ih : ∀ h2 : List AC, Good (11, iv L xs) h2 → J g mL_law 21 0 0 QL h2 808 [some (.ref 0), some (.ref 1), some (.ref 129), some (.int (nI k))] []) : J g mL_law 21 0 0 QL h 771 [some (.ref 0), some (.ref 1), some (.ref 129), some (.int (nI k))] [] := by
  obtain ⟨v9, h9, G9, hG9, ⟨hv9, a0, ⟨f6, a1⟩, ⟨f7, a7⟩⟩, c1, c2⟩ := pg_count (g := g) (a1 := xs (k + 1)) hG
  obtain ⟨b0, ⟨g6, b1⟩, _⟩ := Good_at hG
  obtain ⟨x9, rfl⟩ : ∃ x9, v9 = .int x9 := by
    rcases hv9 with ⟨e9, x9, q9⟩ | ⟨e9, x9, q9⟩
    · exact ⟨x9, q9⟩
    · exact absurd e9 (by decide)
  refine j_aload_n (pc := 771) dL_law_771 rfl ?_
  refine j_aload_n (pc := 772) dL_law_772 rfl ?_
  refine j_iload_n (pc := 773) dL_law_773 rfl ?_
  refine j_iconst (pc := 774) dL_law_774 kc_1 ?_
  refine j_iadd (pc := 775) dL_law_775 ?_
  refine j_ialdE (pc := 776) dL_law_776 b0 rfl (nIa k 1) (by omega) (by omega) ?_
  refine j_v1 (pc := 777) (ci := 6) dL_law_777 mc_X6_count ml_L_117 im_X6_count se_X6_count rfl rfl b1 (by omega) (c1) (Nat.le_of_ble_eq_true rfl) ?_
  refine j_aload_n (pc := 780) dL_law_780 rfl ?_
  refine j_aload_n (pc := 781) dL_law_781 rfl ?_
  refine j_iload_n (pc := 782) dL_law_782 rfl ?_
  refine j_iconst (pc := 783) dL_law_783 kc_1 ?_
  refine j_iadd (pc := 784) dL_law_784 ?_
  refine j_ialdE (pc := 785) dL_law_785 a0 rfl (nIa k 1) (by omega) (by omega) ?_
  refine j_v1g (pc := 786) (ci := 7) dL_law_786 mc_X7_count ml_L_120 im_X7_count se_X7_count rfl rfl a7 (by omega) (c2) (Nat.le_of_ble_eq_true rfl) (fun r9 h2 q9 => ?_)
  obtain ⟨rfl, hg9⟩ := q9
  change J g mL_law 21 0 0 _ _ _ _ (.int x9 :: .int x9 :: [])
  refine j_icmp_eq (pc := 789) (tgt := 808) dL_law_789 rfl (fun _ => ?_) (fun zc789 => absurd rfl zc789)
  exact ih _ (hG9 _ hg9)

set_option maxRecDepth 20000 in
set_option maxHeartbeats 200000 in
theorem la_trace {h : List AC} {k : Nat} (hL : L ≤ 2048) (hk : k + 3 < L) (hG : Good (11, iv L xs) h) (ih : ∀ h2 : List AC, Good (11, iv L xs) h2 → J g mL_law 21 0 0 QL h2 808 [some (.ref 0), some (.ref 1), some (.ref 129), some (.int (nI k))] []) : J g mL_law 21 0 0 QL h 794 [some (.ref 0), some (.ref 1), some (.ref 129), some (.int (nI k))] [] := by
  obtain ⟨v9, h9, G9, hG9, ⟨hv9, a0, ⟨f6, a1⟩, ⟨f7, a7⟩⟩, c1, c2⟩ := pg_trace (g := g)  hG
  obtain ⟨b0, ⟨g6, b1⟩, _⟩ := Good_at hG
  obtain ⟨x9, rfl⟩ : ∃ x9, v9 = .long x9 := by
    rcases hv9 with ⟨e9, x9, q9⟩ | ⟨e9, x9, q9⟩
    · exact absurd e9 (by decide)
    · exact ⟨x9, q9⟩
  refine j_aload_n (pc := 794) dL_law_794 rfl ?_
  refine j_v0 (pc := 795) (ci := 6) dL_law_795 mc_X6_trace ml_L_121 im_X6_trace se_X6_trace rfl rfl b1 (by omega) (c1) (Nat.le_of_ble_eq_true rfl) ?_
  refine j_aload_n (pc := 798) dL_law_798 rfl ?_
  refine j_v0g (pc := 799) (ci := 7) dL_law_799 mc_X7_trace ml_L_125 im_X7_trace se_X7_trace rfl rfl a7 (by omega) (c2) (Nat.le_of_ble_eq_true rfl) (fun r9 h2 q9 => ?_)
  obtain ⟨rfl, hg9⟩ := q9
  change J g mL_law 21 0 0 _ _ _ _ (.long x9 :: .long x9 :: [])
  refine j_lcmp (pc := 802) dL_law_802 ?_
  rw [cmp_same x9]
  refine j_if_eq (pc := 803) (tgt := 808) dL_law_803 rfl (fun _ => ?_) (fun zc803 => absurd (rfl : (0 : Int32) = 0) zc803)
  exact ih _ (hG9 _ hg9)

theorem la_808 {h : List AC} {k : Nat} (K : J g mL_law 21 0 0 QL h 18 [some (.ref 0), some (.ref 1), some (.ref 129), some (.int (nI (k + 4)))] []) : J g mL_law 21 0 0 QL h 808 [some (.ref 0), some (.ref 1), some (.ref 129), some (.int (nI k))] [] := by
  refine j_iinc (pc := 808) dL_law_808 rfl (show nI k + Int32.ofInt 4 = nI (k + 4) from nIa k 4) (Nat.le_of_ble_eq_true rfl) rfl ?_
  refine j_goto (pc := 811) (tgt := 18) dL_law_811 rfl ?_
  exact K
theorem sub4 {k : Nat} (hL : L ≤ 2048) (hk : k ≤ L + 4) : nI L - 4 < nI k ↔ L < k + 4 := by
  have x4 : (4 : Int32).toInt = 4 := rfl
  have t1 := nI_tI (t := L) (by omega)
  have t2 := nI_tI (t := k) (by omega)
  have e := tI_sub (x := nI L) (y := 4) (by omega) (by omega)
  rw [Int32.lt_iff_toInt_lt, e, t2]
  omega
set_option maxRecDepth 20000 in
set_option maxHeartbeats 200000 in
theorem la_exit {h : List AC} {k : Nat} (hL : L ≤ 2048) (hk : k ≤ L + 4) (hx : L < k + 4) (hG : Good (11, iv L xs) h) : J g mL_law 21 0 0 QL h 18 [some (.ref 0), some (.ref 1), some (.ref 129), some (.int (nI k))] [] := by
  obtain ⟨b0, ⟨g6, b1⟩, _⟩ := Good_at hG
  refine j_iload_n (pc := 18) dL_law_18 rfl ?_
  refine j_aload_n (pc := 19) dL_law_19 rfl ?_
  refine j_alen (pc := 20) dL_law_20 b0 rfl (show Int32.ofNat (iv L xs).length = nI L by rw [iv_len]; rfl) ?_
  refine j_iconst (pc := 21) dL_law_21 kc_4 ?_
  refine j_isub (pc := 22) dL_law_22 ?_
  refine j_icmp_gt (pc := 23) (tgt := 814) dL_law_23 rfl (fun _ => ?_) (fun zc23 => absurd ((sub4 hL hk).mpr hx) zc23)
  refine j_iconst (pc := 814) dL_law_814 kc_1 ?_
  refine j_zret (pc := 815) (b := true) dL_law_815 rfl rfl ?_
  exact rfl

set_option maxRecDepth 20000 in
set_option maxHeartbeats 200000 in
theorem la_body {h : List AC} {k : Nat} (hL : L ≤ 2048) (hk : k + 3 < L) (hG : Good (11, iv L xs) h) (ih : ∀ h2 : List AC, Good (11, iv L xs) h2 → J g mL_law 21 0 0 QL h2 808 [some (.ref 0), some (.ref 1), some (.ref 129), some (.int (nI k))] []) : J g mL_law 21 0 0 QL h 18 [some (.ref 0), some (.ref 1), some (.ref 129), some (.int (nI k))] [] := by
  obtain ⟨b0, ⟨g6, b1⟩, _⟩ := Good_at hG
  refine j_iload_n (pc := 18) dL_law_18 rfl ?_
  refine j_aload_n (pc := 19) dL_law_19 rfl ?_
  refine j_alen (pc := 20) dL_law_20 b0 rfl (show Int32.ofNat (iv L xs).length = nI L by rw [iv_len]; rfl) ?_
  refine j_iconst (pc := 21) dL_law_21 kc_4 ?_
  refine j_isub (pc := 22) dL_law_22 ?_
  refine j_icmp_gt (pc := 23) (tgt := 814) dL_law_23 rfl (fun zc23 => absurd zc23 (fun q => absurd ((sub4 hL (by omega)).mp q) (by omega))) (fun _ => ?_)
  refine j_aload_n (pc := 26) dL_law_26 rfl ?_
  refine j_iload_n (pc := 27) dL_law_27 rfl ?_
  refine j_ialdE (pc := 28) dL_law_28 b0 rfl rfl (by omega) (by omega) ?_
  refine j_bipush (pc := 29) dL_law_29 kb_31 ?_
  refine j_iand (pc := 31) dL_law_31 ?_
  by_cases zs32 : (xs k &&& 31).toInt < 0 ∨ 26 < (xs k &&& 31).toInt
  · refine j_tableOut (pc := 32) (tgt := 808) dL_law_32 zs32 rfl ?_
    exact ih _ hG
  by_cases zs32_0 : xs k &&& 31 = 0
  · refine j_tableIn (pc := 32) (off := 124) (tgt := 156) dL_law_32 (by rw [zs32_0]; decide) (by rw [zs32_0]; decide) (by rw [zs32_0]; decide) rfl ?_
    exact la_type hL hk hG ih
  by_cases zs32_1 : xs k &&& 31 = 1
  · refine j_tableIn (pc := 32) (off := 147) (tgt := 179) dL_law_32 (by rw [zs32_1]; decide) (by rw [zs32_1]; decide) (by rw [zs32_1]; decide) rfl ?_
    exact la_clear hL hk hG ih
  by_cases zs32_2 : xs k &&& 31 = 2
  · refine j_tableIn (pc := 32) (off := 160) (tgt := 192) dL_law_32 (by rw [zs32_2]; decide) (by rw [zs32_2]; decide) (by rw [zs32_2]; decide) rfl ?_
    exact la_gate hL hk hG ih
  by_cases zs32_3 : xs k &&& 31 = 3
  · refine j_tableIn (pc := 32) (off := 173) (tgt := 205) dL_law_32 (by rw [zs32_3]; decide) (by rw [zs32_3]; decide) (by rw [zs32_3]; decide) rfl ?_
    exact la_deed hL hk hG ih
  by_cases zs32_4 : xs k &&& 31 = 4
  · refine j_tableIn (pc := 32) (off := 206) (tgt := 238) dL_law_32 (by rw [zs32_4]; decide) (by rw [zs32_4]; decide) (by rw [zs32_4]; decide) rfl ?_
    exact la_dead hL hk hG ih
  by_cases zs32_5 : xs k &&& 31 = 5
  · refine j_tableIn (pc := 32) (off := 239) (tgt := 271) dL_law_32 (by rw [zs32_5]; decide) (by rw [zs32_5]; decide) (by rw [zs32_5]; decide) rfl ?_
    exact la_bearer hL hk hG ih
  by_cases zs32_6 : xs k &&& 31 = 6
  · refine j_tableIn (pc := 32) (off := 262) (tgt := 294) dL_law_32 (by rw [zs32_6]; decide) (by rw [zs32_6]; decide) (by rw [zs32_6]; decide) rfl ?_
    exact la_now hL hk hG ih
  by_cases zs32_7 : xs k &&& 31 = 7
  · refine j_tableIn (pc := 32) (off := 285) (tgt := 317) dL_law_32 (by rw [zs32_7]; decide) (by rw [zs32_7]; decide) (by rw [zs32_7]; decide) rfl ?_
    exact la_lays hL hk hG ih
  by_cases zs32_8 : xs k &&& 31 = 8
  · refine j_tableIn (pc := 32) (off := 308) (tgt := 340) dL_law_32 (by rw [zs32_8]; decide) (by rw [zs32_8]; decide) (by rw [zs32_8]; decide) rfl ?_
    exact la_thumbs hL hk hG ih
  by_cases zs32_9 : xs k &&& 31 = 9
  · refine j_tableIn (pc := 32) (off := 331) (tgt := 363) dL_law_32 (by rw [zs32_9]; decide) (by rw [zs32_9]; decide) (by rw [zs32_9]; decide) rfl ?_
    exact la_adorns hL hk hG ih
  by_cases zs32_10 : xs k &&& 31 = 10
  · refine j_tableIn (pc := 32) (off := 364) (tgt := 396) dL_law_32 (by rw [zs32_10]; decide) (by rw [zs32_10]; decide) (by rw [zs32_10]; decide) rfl ?_
    exact la_sins hL hk hG ih
  by_cases zs32_11 : xs k &&& 31 = 11
  · refine j_tableIn (pc := 32) (off := 397) (tgt := 429) dL_law_32 (by rw [zs32_11]; decide) (by rw [zs32_11]; decide) (by rw [zs32_11]; decide) rfl ?_
    exact la_oils hL hk hG ih
  by_cases zs32_12 : xs k &&& 31 = 12
  · refine j_tableIn (pc := 32) (off := 420) (tgt := 452) dL_law_32 (by rw [zs32_12]; decide) (by rw [zs32_12]; decide) (by rw [zs32_12]; decide) rfl ?_
    exact la_year hL hk hG ih
  by_cases zs32_13 : xs k &&& 31 = 13
  · refine j_tableIn (pc := 32) (off := 433) (tgt := 465) dL_law_32 (by rw [zs32_13]; decide) (by rw [zs32_13]; decide) (by rw [zs32_13]; decide) rfl ?_
    exact la_undo hL hk hG ih
  by_cases zs32_14 : xs k &&& 31 = 14
  · refine j_tableIn (pc := 32) (off := 446) (tgt := 478) dL_law_32 (by rw [zs32_14]; decide) (by rw [zs32_14]; decide) (by rw [zs32_14]; decide) rfl ?_
    exact la_order hL hk hG ih
  by_cases zs32_15 : xs k &&& 31 = 15
  · refine j_tableIn (pc := 32) (off := 469) (tgt := 501) dL_law_32 (by rw [zs32_15]; decide) (by rw [zs32_15]; decide) (by rw [zs32_15]; decide) rfl ?_
    exact la_tells hL hk hG ih
  by_cases zs32_16 : xs k &&& 31 = 16
  · refine j_tableIn (pc := 32) (off := 502) (tgt := 534) dL_law_32 (by rw [zs32_16]; decide) (by rw [zs32_16]; decide) (by rw [zs32_16]; decide) rfl ?_
    exact la_forget hL hk hG ih
  by_cases zs32_17 : xs k &&& 31 = 17
  · refine j_tableIn (pc := 32) (off := 515) (tgt := 547) dL_law_32 (by rw [zs32_17]; decide) (by rw [zs32_17]; decide) (by rw [zs32_17]; decide) rfl ?_
    exact la_can hL hk hG ih
  by_cases zs32_18 : xs k &&& 31 = 18
  · refine j_tableIn (pc := 32) (off := 538) (tgt := 570) dL_law_32 (by rw [zs32_18]; decide) (by rw [zs32_18]; decide) (by rw [zs32_18]; decide) rfl ?_
    exact la_ask hL hk hG ih
  by_cases zs32_19 : xs k &&& 31 = 19
  · refine j_tableIn (pc := 32) (off := 551) (tgt := 583) dL_law_32 (by rw [zs32_19]; decide) (by rw [zs32_19]; decide) (by rw [zs32_19]; decide) rfl ?_
    exact la_life hL hk hG ih
  by_cases zs32_20 : xs k &&& 31 = 20
  · refine j_tableIn (pc := 32) (off := 584) (tgt := 616) dL_law_32 (by rw [zs32_20]; decide) (by rw [zs32_20]; decide) (by rw [zs32_20]; decide) rfl ?_
    exact la_carry hL hk hG ih
  by_cases zs32_21 : xs k &&& 31 = 21
  · refine j_tableIn (pc := 32) (off := 617) (tgt := 649) dL_law_32 (by rw [zs32_21]; decide) (by rw [zs32_21]; decide) (by rw [zs32_21]; decide) rfl ?_
    exact la_odds hL hk hG ih
  by_cases zs32_22 : xs k &&& 31 = 22
  · refine j_tableIn (pc := 32) (off := 660) (tgt := 692) dL_law_32 (by rw [zs32_22]; decide) (by rw [zs32_22]; decide) (by rw [zs32_22]; decide) rfl ?_
    exact la_rate hL hk hG ih
  by_cases zs32_23 : xs k &&& 31 = 23
  · refine j_tableIn (pc := 32) (off := 693) (tgt := 725) dL_law_32 (by rw [zs32_23]; decide) (by rw [zs32_23]; decide) (by rw [zs32_23]; decide) rfl ?_
    exact la_keep hL hk hG ih
  by_cases zs32_24 : xs k &&& 31 = 24
  · refine j_tableIn (pc := 32) (off := 716) (tgt := 748) dL_law_32 (by rw [zs32_24]; decide) (by rw [zs32_24]; decide) (by rw [zs32_24]; decide) rfl ?_
    exact la_back hL hk hG ih
  by_cases zs32_25 : xs k &&& 31 = 25
  · refine j_tableIn (pc := 32) (off := 739) (tgt := 771) dL_law_32 (by rw [zs32_25]; decide) (by rw [zs32_25]; decide) (by rw [zs32_25]; decide) rfl ?_
    exact la_count hL hk hG ih
  by_cases zs32_26 : xs k &&& 31 = 26
  · refine j_tableIn (pc := 32) (off := 762) (tgt := 794) dL_law_32 (by rw [zs32_26]; decide) (by rw [zs32_26]; decide) (by rw [zs32_26]; decide) rfl ?_
    exact la_trace hL hk hG ih
  exfalso
  have zt32_0 : ¬ (xs k &&& 31).toInt = 0 := fun e => zs32_0 (Int32.toInt_inj.mp (e.trans (by decide)))
  have zt32_1 : ¬ (xs k &&& 31).toInt = 1 := fun e => zs32_1 (Int32.toInt_inj.mp (e.trans (by decide)))
  have zt32_2 : ¬ (xs k &&& 31).toInt = 2 := fun e => zs32_2 (Int32.toInt_inj.mp (e.trans (by decide)))
  have zt32_3 : ¬ (xs k &&& 31).toInt = 3 := fun e => zs32_3 (Int32.toInt_inj.mp (e.trans (by decide)))
  have zt32_4 : ¬ (xs k &&& 31).toInt = 4 := fun e => zs32_4 (Int32.toInt_inj.mp (e.trans (by decide)))
  have zt32_5 : ¬ (xs k &&& 31).toInt = 5 := fun e => zs32_5 (Int32.toInt_inj.mp (e.trans (by decide)))
  have zt32_6 : ¬ (xs k &&& 31).toInt = 6 := fun e => zs32_6 (Int32.toInt_inj.mp (e.trans (by decide)))
  have zt32_7 : ¬ (xs k &&& 31).toInt = 7 := fun e => zs32_7 (Int32.toInt_inj.mp (e.trans (by decide)))
  have zt32_8 : ¬ (xs k &&& 31).toInt = 8 := fun e => zs32_8 (Int32.toInt_inj.mp (e.trans (by decide)))
  have zt32_9 : ¬ (xs k &&& 31).toInt = 9 := fun e => zs32_9 (Int32.toInt_inj.mp (e.trans (by decide)))
  have zt32_10 : ¬ (xs k &&& 31).toInt = 10 := fun e => zs32_10 (Int32.toInt_inj.mp (e.trans (by decide)))
  have zt32_11 : ¬ (xs k &&& 31).toInt = 11 := fun e => zs32_11 (Int32.toInt_inj.mp (e.trans (by decide)))
  have zt32_12 : ¬ (xs k &&& 31).toInt = 12 := fun e => zs32_12 (Int32.toInt_inj.mp (e.trans (by decide)))
  have zt32_13 : ¬ (xs k &&& 31).toInt = 13 := fun e => zs32_13 (Int32.toInt_inj.mp (e.trans (by decide)))
  have zt32_14 : ¬ (xs k &&& 31).toInt = 14 := fun e => zs32_14 (Int32.toInt_inj.mp (e.trans (by decide)))
  have zt32_15 : ¬ (xs k &&& 31).toInt = 15 := fun e => zs32_15 (Int32.toInt_inj.mp (e.trans (by decide)))
  have zt32_16 : ¬ (xs k &&& 31).toInt = 16 := fun e => zs32_16 (Int32.toInt_inj.mp (e.trans (by decide)))
  have zt32_17 : ¬ (xs k &&& 31).toInt = 17 := fun e => zs32_17 (Int32.toInt_inj.mp (e.trans (by decide)))
  have zt32_18 : ¬ (xs k &&& 31).toInt = 18 := fun e => zs32_18 (Int32.toInt_inj.mp (e.trans (by decide)))
  have zt32_19 : ¬ (xs k &&& 31).toInt = 19 := fun e => zs32_19 (Int32.toInt_inj.mp (e.trans (by decide)))
  have zt32_20 : ¬ (xs k &&& 31).toInt = 20 := fun e => zs32_20 (Int32.toInt_inj.mp (e.trans (by decide)))
  have zt32_21 : ¬ (xs k &&& 31).toInt = 21 := fun e => zs32_21 (Int32.toInt_inj.mp (e.trans (by decide)))
  have zt32_22 : ¬ (xs k &&& 31).toInt = 22 := fun e => zs32_22 (Int32.toInt_inj.mp (e.trans (by decide)))
  have zt32_23 : ¬ (xs k &&& 31).toInt = 23 := fun e => zs32_23 (Int32.toInt_inj.mp (e.trans (by decide)))
  have zt32_24 : ¬ (xs k &&& 31).toInt = 24 := fun e => zs32_24 (Int32.toInt_inj.mp (e.trans (by decide)))
  have zt32_25 : ¬ (xs k &&& 31).toInt = 25 := fun e => zs32_25 (Int32.toInt_inj.mp (e.trans (by decide)))
  have zt32_26 : ¬ (xs k &&& 31).toInt = 26 := fun e => zs32_26 (Int32.toInt_inj.mp (e.trans (by decide)))
  omega

theorem la_loop (hL : L ≤ 2048) : ∀ (m k : Nat) (h : List AC), Good (11, iv L xs) h → L < k + m → k ≤ L + 4 → J g mL_law 21 0 0 QL h 18 [some (.ref 0), some (.ref 1), some (.ref 129), some (.int (nI k))] []
  | 0, k, h, hG, hm, hk => la_exit hL hk (by omega) hG
  | m + 1, k, h, hG, hm, hk => by
    by_cases c : L < k + 4
    · exact la_exit hL hk c hG
    · exact la_body hL (by omega) hG (fun h2 hG2 => la_808 (la_loop hL m (k + 4) h2 hG2 (by omega) (by omega)))
theorem Good_0 {scr : AC} : Good scr (W2 (W1 scr [] zF 0 (0, 0, 0, 0, 0, false, false, false) false pV pV (0, 0, 2, zF, zF, fun _ => -9) 0 0 (fun _ => zS) zF (fun _ => zS) 0 zF zF 0 0) (0) (zF) (0) (zF) (0) (zF) (80) (2) (upd zF 2 2) (zF) (0) (zF) ((fun _ => false)) (0) (zF) (0) (zF) (0) (0) (0) (0) (0) (false) (0) (0) (zF) (0) (zF) (zF) (zF) (0) (zF) (0) (0) (zF) (zF) (zF)) := by
  refine ⟨_, _, _, _, _, _, _, _, _, _, _, _, _, _, _, _, _, _, _, _, _, _, _, _, _, _, _, _, _, _, _, _, _, _, _, _, _, _, _, _, _, _, _, _, _, _, _, _, _, _, _, _, _, _, ⟨0, 0, 0, 0, 0, 0, 0, ⟨by omega, by omega, by omega, by omega, by omega, by omega, by omega⟩, ⟨⟨rfl, rfl⟩, ⟨rfl, rfl⟩, ⟨rfl, rfl⟩, rfl, rfl, fun k hk => absurd hk (Nat.not_lt_zero k), fun k hk => absurd hk (Nat.not_lt_zero k), fun k hk => absurd hk (Nat.not_lt_zero k), by decide⟩, ⟨⟨rfl, rfl, rfl⟩, fun k hk => absurd hk (Nat.not_lt_zero k), by decide, by decide, by decide⟩, ⟨rfl, rfl, rfl, fun k hk => absurd hk (Nat.not_lt_zero k)⟩, ⟨⟨0, by decide, rfl⟩, fun c hc => ?_⟩, ⟨rfl, rfl, fun k hk => absurd hk (Nat.not_lt_zero k)⟩, ⟨rfl, rfl, fun k hk => absurd hk (Nat.not_lt_zero k)⟩, rfl⟩, rfl⟩
  rcases (show c = 0 ∨ c = 1 by omega) with rfl | rfl
  · exact ⟨by decide, fun z => by cases z⟩
  · exact ⟨by decide, fun z => by cases z⟩
set_option maxRecDepth 200000 in
set_option maxHeartbeats 2000000 in
theorem la_start (hL : L ≤ 2048) : J g mL_law 21 146 1210 QL [((11, iv L xs) : AC)] 0 [some (.ref 0), none, none, none] [] := by
  refine j_new (pc := 0) dL_law_0 nl_L_7 jdef_X6 (mc1 := 145) (ms1 := 1196) rfl rfl ?_
  change J g mL_law 21 145 1196 QL ((11, iv L xs) :: (6, dfX6) :: []) 3 _ (.ref 1 :: [])
  refine j_dup (pc := 3) dL_law_3 rfl ?_
  refine j_i0 (pc := 4) dL_law_4 mc_X6_init rfl rfl ml_L_9 im_X6_init (by omega) x_init (Nat.le_of_ble_eq_true rfl) (mc1 := 18) (ms1 := 555) rfl rfl ?_
  refine j_astore_n (pc := 7) dL_law_7 rfl (Nat.le_of_ble_eq_true rfl) rfl ?_
  refine j_new (pc := 8) dL_law_8 nl_L_10 jdef_X7 (mc1 := 17) (ms1 := 518) rfl rfl ?_
  rw [w1_len]
  refine j_dup (pc := 11) dL_law_11 rfl ?_
  refine j_i0 (pc := 12) dL_law_12 mc_X7_init rfl rfl ml_L_12 im_X7_init (by omega) (m_init w1_len) (Nat.le_of_ble_eq_true rfl) (mc1 := 0) (ms1 := 0) rfl rfl ?_
  refine j_astore_n (pc := 15) dL_law_15 rfl (Nat.le_of_ble_eq_true rfl) rfl ?_
  refine j_iconst (pc := 16) dL_law_16 kc_0 ?_
  refine j_istore_n (pc := 17) dL_law_17 rfl (Nat.le_of_ble_eq_true rfl) rfl ?_
  exact la_loop hL (L + 1) 0 _ Good_0 (by omega) (by omega)
end

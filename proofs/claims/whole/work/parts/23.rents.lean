/-! Rents -/
def fxB (ki : Nat → Int32) (a : Nat) : Bool := decide (ki a = 1 ∨ ki a = 3)
def adB (sh : Nat → Int32) (a b : Nat) : Bool := decide (¬ sh (8 * a + b) ≤ 0)
def bsF (sh : Nat → Int32) (m a : Nat) : Nat := enc (adB sh a) m
def fxN (ki : Nat → Int32) (m : Nat) : Nat := enc (fxB ki) m
def rcF (ki sh : Nat → Int32) (m : Nat) : Nat := rS (bsF sh m) m m (fxN ki m) (fxN ki m)
theorem fxN_lt (ki : Nat → Int32) {m : Nat} (hm : m ≤ 8) : fxN ki m < 256 := Nat.lt_of_lt_of_le (enc_lt _ m) (Nat.pow_le_pow_right (show 0 < 2 by decide) hm)
theorem bsF_lt (sh : Nat → Int32) {m : Nat} (hm : m ≤ 8) (a : Nat) : bsF sh m a < 2 ^ 8 := Nat.lt_of_lt_of_le (enc_lt _ m) (Nat.pow_le_pow_right (show 0 < 2 by decide) hm)
theorem rS_lt {bes : Nat → Nat} {n : Nat} (hb : ∀ a, bes a < 2 ^ 8) : ∀ (d set last : Nat), set < 2 ^ 8 → rS bes n d set last < 2 ^ 8
  | 0, _, _, h => h
  | d + 1, set, last, h => by
    unfold rS
    split
    · exact h
    · exact rS_lt hb d _ _ (Nat.or_lt_two_pow h (andn_lt (bI_lt hb n)))
theorem rcF_lt (ki sh : Nat → Int32) {m : Nat} (hm : m ≤ 8) : rcF ki sh m < 256 := rS_lt (bsF_lt sh hm) m _ _ (fxN_lt ki hm)
abbrev rO (be : Int64) (re op sz : Int32) : AC := aO 0 [.ref 23, .long be, .int re, .int op, .int sz, .ref 24, .ref 25]
theorem pfc_0 {k : Nat} {v0 v1 v2 v3 v4 v5 v6 w : Value} {K : AC → Prop} (hk : k < 7) : pfc (aO 0 [v0, v1, v2, v3, v4, v5, v6]) 0 k w K = K (aO 0 (fS w [v0, v1, v2, v3, v4, v5, v6] k)) := pfc_O hk
theorem n9 (a : Nat) : (9 : Int32) * nI a = nI (9 * a) := by rw [show (9 : Int32) = nI 9 from rfl, pk_mul]
theorem n8p (a : Nat) : nI a + 8 = nI (a + 8) := by rw [show (8 : Int32) = nI 8 from rfl, nI_add]
def mvA (ro : Nat → Int64) (o : Nat) (be : Int64) (a f : Nat) : Int64 := if o.testBit a = true then -(ro (9 * a + f)) else if a = f then be else 0
def stA (ro : Nat → Int64) (o a : Nat) : Int64 := if o.testBit a = true then ro (9 * a + 8) else 0
def crF (ro : Nat → Int64) (a p : Nat) (d own oth : Int64) : Nat → Nat → Int64
  | 0 => ro
  | k + 1 => vp_updL (crF ro a p d own oth k) (9 * a + k) ((own * crF ro a p d own oth k (9 * a + k) - oth * crF ro a p d own oth k (9 * p + k)) / d)
def crA (ro : Nat → Int64) (a p : Nat) (d : Int64) : Nat → Int64 := if d = 0 then ro else crF ro a p d (ro (9 * p + p)) (ro (9 * a + p)) 9
def ciF (ro : Nat → Int64) (o k : Nat) (d : Int64) : Nat → Nat → Int64
  | 0 => ro
  | i + 1 => if i ≠ k ∧ o.testBit i = true then crA (ciF ro o k d i) i k d else ciF ro o k d i
def coF (ro : Nat → Int64) (o m : Nat) : Nat → (Nat → Int64) × Int64
  | 0 => (ro, 1)
  | k + 1 => if o.testBit k = true then (ciF (coF ro o m k).1 o k (coF ro o m k).2 m, ciF (coF ro o m k).1 o k (coF ro o m k).2 m (9 * k + k)) else coF ro o m k
def flI (ro : Nat → Int64) (sh : Nat → Int32) (a : Nat) : Nat → Nat → Int64
  | 0 => ro
  | k + 1 => vp_updL (flI ro sh a k) (9 * a + k) (-(sh (8 * a + k))).toInt64
def flO (ro : Nat → Int64) (sh : Nat → Int32) (o m : Nat) : Nat → Nat → Int64
  | 0 => ro
  | a + 1 => if o.testBit a = true then vp_updL (vp_updL (flI (flO ro sh o m a) sh a 8) (9 * a + a) (wt sh a m).toInt64) (9 * a + 8) (wt sh a m).toInt64 else flO ro sh o m a
def raF (ro : Nat → Int64) (r o : Nat) (be : Int64) (ak : Nat → Int32) (a : Nat) : Nat → Int64
  | 0 => 0
  | i + 1 => if (andn r o).testBit i = true then raF ro r o be ak a i + mvA ro o be a i * (ak i).toInt64 else raF ro r o be ak a i
def abF (ab ro : Nat → Int64) (r o : Nat) (be : Int64) (ak : Nat → Int32) (m : Nat) : Nat → Nat → Int64
  | 0 => ab
  | i + 1 => vp_updL (abF ab ro r o be ak m i) i (if r.testBit i = true then raF ro r o be ak i m else 0)
def rpF (ab ro : Nat → Int64) (r o : Nat) (be : Int64) (f : Nat) (more : Int32) : Nat → Nat → Int64
  | 0 => ab
  | i + 1 => if r.testBit i = true then vp_updL (rpF ab ro r o be f more i) i (rpF ab ro r o be f more i i + more.toInt64 * mvA ro o be i f) else rpF ab ro r o be f more i
def icF (ab : Nat → Int64) (r : Nat) (be : Int64) (ow : Nat → Int32) (pu w : Int32) : Nat → Int64
  | 0 => 0
  | i + 1 => if ow i = w ∧ r.testBit i = true ∧ ab i ≤ pu.toInt64 * be then icF ab r be ow pu w i + ab i else icF ab r be ow pu w i
/-- whether the first i are near -/
def anF (ab : Nat → Int64) (r : Nat) (be : Int64) (as : Nat → Int32) (pe : Int32) (i : Nat) : Prop := r.testBit i = true → (if 0 < (as i).toInt64 * be - ab i then (as i).toInt64 * be - ab i else -((as i).toInt64 * be - ab i)) ≤ pe.toInt64 * be
section RENTS
variable {h : AH} {Q : Option Value → AH → Prop} {t : Nat} {n pu ye : Int32} {ki as ow ca sh ah ak : Nat → Int32} {be : Int64} {re op sz : Int32} {ab ro : Nat → Int64} {r o m : Nat}
theorem R_reaches {i : Nat} (h22 : h 22 = rO be (nI r) op sz) (hr : r < 256) (hi : i < 8) : WpM 1 [.ref 22, .int (nI i)] h Q = Q (some (.int (if ¬ (r.testBit i = true) then 0 else 1))) h := by
  rw [eR_reaches]
  simp only [qR_reaches_0, jR_reaches_0, w0, w1, w2i, w2r, w3, w4, w5_0, w5_1, w5_2, w5_3, w5_4, w5_5, w5_6, w5_7, w5_8, w6_0, w6_1, w7_0, w7_1, w7_2, w7_3, w7_4, w7_5, w8_0, w8_1, w9_0, w9_1, w9_2, w10_0, w10_1, w10_2, w10_3, w10_4, w10_5, w11, w12_0, w12_1, w12_2, w12_3, w12_4, w12_5, w13_0, w13_1, w13_2, w13_3, w13_4, w13_5, w14, w15i, w15r, w16, w17, w18, w19i, w19z, w19l, w20, w21, w22, w23, w24, w25, w26, w27, w28_1, w28_2, w28_3, w28_4, w28_5, w28_6, w29, w30i, w30z, w31, w32, w33, w34, w35, w36, w37_1, w37_2, w37_3, w37_4, w37_5, w37_6, isO_O, set1_0, set1_1i, set1_1r, set1_1n, set1_1l, set1_s, set2_0, set2_1i, set2_1r, set2_1n, set2_1l, set2_s, ldv_i, ldv_l, ldv_r, ldv_s, ldi_i, ldi_s, fK_0, fK_s, gfc_O, fS_0, fS_s, uH_s, uH_n, uH_u, tl_s, tl_n, b1_0, b1_1, ite_true, ite_false, if_true, if_false, List.length_nil, List.length_cons, Nat.zero_le, Nat.zero_add, Nat.reduceAdd, Nat.reduceLeDiff, Nat.reduceLT, Nat.reduceEqDiff, Nat.reduceMul, Nat.add_left_cancel_iff, not_false_eq_true, h22, C_isIn, zb, bit1 (show r < 2 ^ 31 by omega) (show i < 31 by omega)]
theorem R_movesAbove {a f : Nat} (h22 : h 22 = rO be re (nI o) sz) (h25 : h 25 = aJ 72 ro) (ho : o < 256) (ha : a < 8) (hf : f < 8) : WpM 7 [.ref 22, .int (nI a), .int (nI f)] h Q = Q (some (.long (mvA ro o be a f))) h := by
  rw [eR_movesAbove]
  simp only [qR_movesAbove_0, jR_movesAbove_0, qR_movesAbove_24, jR_movesAbove_24, qR_movesAbove_36, jR_movesAbove_36, qR_movesAbove_37, jR_movesAbove_37, w0, w1, w2i, w2r, w3, w4, w5_0, w5_1, w5_2, w5_3, w5_4, w5_5, w5_6, w5_7, w5_8, w6_0, w6_1, w7_0, w7_1, w7_2, w7_3, w7_4, w7_5, w8_0, w8_1, w9_0, w9_1, w9_2, w10_0, w10_1, w10_2, w10_3, w10_4, w10_5, w11, w12_0, w12_1, w12_2, w12_3, w12_4, w12_5, w13_0, w13_1, w13_2, w13_3, w13_4, w13_5, w14, w15i, w15r, w16, w17, w18, w19i, w19z, w19l, w20, w21, w22, w23, w24, w25, w26, w27, w28_1, w28_2, w28_3, w28_4, w28_5, w28_6, w29, w30i, w30z, w31, w32, w33, w34, w35, w36, w37_1, w37_2, w37_3, w37_4, w37_5, w37_6, isO_O, set1_0, set1_1i, set1_1r, set1_1n, set1_1l, set1_s, set2_0, set2_1i, set2_1r, set2_1n, set2_1l, set2_s, ldv_i, ldv_l, ldv_r, ldv_s, ldi_i, ldi_s, fK_0, fK_s, gfc_O, fS_0, fS_s, uH_s, uH_n, uH_u, tl_s, tl_n, b1_0, b1_1, ite_true, ite_false, if_true, if_false, List.length_nil, List.length_cons, Nat.zero_le, Nat.zero_add, Nat.reduceAdd, Nat.reduceLeDiff, Nat.reduceLT, Nat.reduceEqDiff, Nat.reduceMul, Nat.add_left_cancel_iff, not_false_eq_true, h22, h25, C_isIn, z01, bit1 (show o < 2 ^ 31 by omega) (show a < 31 by omega), n9, nI_add, rJc_n (show 9 * a + f < 72 by omega) (show 72 < 2 ^ 31 by decide), ne_eq, nI_eq (show a < 2 ^ 31 by omega) (show f < 2 ^ 31 by omega)]
  unfold mvA
  by_cases hb : o.testBit a = true
  · simp [hb]
  · by_cases hq : a = f
    · subst hq; simp [hb]
    · simp [hb, hq]
theorem R_stepsAbove {a : Nat} (h22 : h 22 = rO be re (nI o) sz) (h25 : h 25 = aJ 72 ro) (ho : o < 256) (ha : a < 8) : WpM 8 [.ref 22, .int (nI a)] h Q = Q (some (.long (stA ro o a))) h := by
  rw [eR_stepsAbove]
  simp only [qR_stepsAbove_0, jR_stepsAbove_0, qR_stepsAbove_26, jR_stepsAbove_26, qR_stepsAbove_27, jR_stepsAbove_27, w0, w1, w2i, w2r, w3, w4, w5_0, w5_1, w5_2, w5_3, w5_4, w5_5, w5_6, w5_7, w5_8, w6_0, w6_1, w7_0, w7_1, w7_2, w7_3, w7_4, w7_5, w8_0, w8_1, w9_0, w9_1, w9_2, w10_0, w10_1, w10_2, w10_3, w10_4, w10_5, w11, w12_0, w12_1, w12_2, w12_3, w12_4, w12_5, w13_0, w13_1, w13_2, w13_3, w13_4, w13_5, w14, w15i, w15r, w16, w17, w18, w19i, w19z, w19l, w20, w21, w22, w23, w24, w25, w26, w27, w28_1, w28_2, w28_3, w28_4, w28_5, w28_6, w29, w30i, w30z, w31, w32, w33, w34, w35, w36, w37_1, w37_2, w37_3, w37_4, w37_5, w37_6, isO_O, set1_0, set1_1i, set1_1r, set1_1n, set1_1l, set1_s, set2_0, set2_1i, set2_1r, set2_1n, set2_1l, set2_s, ldv_i, ldv_l, ldv_r, ldv_s, ldi_i, ldi_s, fK_0, fK_s, gfc_O, fS_0, fS_s, uH_s, uH_n, uH_u, tl_s, tl_n, b1_0, b1_1, ite_true, ite_false, if_true, if_false, List.length_nil, List.length_cons, Nat.zero_le, Nat.zero_add, Nat.reduceAdd, Nat.reduceLeDiff, Nat.reduceLT, Nat.reduceEqDiff, Nat.reduceMul, Nat.add_left_cancel_iff, not_false_eq_true, h22, h25, C_isIn, z01, bit1 (show o < 2 ^ 31 by omega) (show a < 31 by omega), n9, n8p, rJc_n (show 9 * a + 8 < 72 by omega) (show 72 < 2 ^ 31 by decide)]
  unfold stA
  by_cases hb : o.testBit a = true <;> simp [hb]
theorem R_clearRow_loop {a p : Nat} {d own oth : Int64} {x : Option Value} (ha : a < 8) (hp : p < 8) (hd : ¬ d = 0) : ∀ (e k : Nat) (h : AH), k + e = 9 → h 22 = rO be re op sz → h 25 = aJ 72 (crF ro a p d own oth k) → Wp none 5 qR_clearRow_44 [some (.ref 22), some (.int (nI a)), some (.int (nI p)), some (.long d), none, some (.int (nI (9 * a))), some (.int (nI (9 * p))), some (.long own), none, some (.long oth), none, some (.int (nI k))] [] h Q = Q none (uH h 25 (aJ 72 (crF ro a p d own oth 9))) := by
  intro e
  induction e with
  | zero =>
    intro k h hk h22 h25
    have e : k = 9 := by omega
    subst e
    have hc : (9 : Int32) ≤ nI 9 := by decide
    simp only [qR_clearRow_44, qR_clearRow_96, jR_clearRow_96, w0, w1, w2i, w2r, w3, w4, w5_0, w5_1, w5_2, w5_3, w5_4, w5_5, w5_6, w5_7, w5_8, w6_0, w6_1, w7_0, w7_1, w7_2, w7_3, w7_4, w7_5, w8_0, w8_1, w9_0, w9_1, w9_2, w10_0, w10_1, w10_2, w10_3, w10_4, w10_5, w11, w12_0, w12_1, w12_2, w12_3, w12_4, w12_5, w13_0, w13_1, w13_2, w13_3, w13_4, w13_5, w14, w15i, w15r, w16, w17, w18, w19i, w19z, w19l, w20, w21, w22, w23, w24, w25, w26, w27, w28_1, w28_2, w28_3, w28_4, w28_5, w28_6, w29, w30i, w30z, w31, w32, w33, w34, w35, w36, w37_1, w37_2, w37_3, w37_4, w37_5, w37_6, isO_O, set1_0, set1_1i, set1_1r, set1_1n, set1_1l, set1_s, set2_0, set2_1i, set2_1r, set2_1n, set2_1l, set2_s, ldv_i, ldv_l, ldv_r, ldv_s, ldi_i, ldi_s, fK_0, fK_s, gfc_O, fS_0, fS_s, uH_s, uH_n, uH_u, tl_s, tl_n, b1_0, b1_1, ite_true, ite_false, if_true, if_false, List.length_nil, List.length_cons, Nat.zero_le, Nat.zero_add, Nat.reduceAdd, Nat.reduceLeDiff, Nat.reduceLT, Nat.reduceEqDiff, Nat.reduceMul, Nat.add_left_cancel_iff, not_false_eq_true, hc]
    rw [uH_id h h25]
  | succ e ih =>
    intro k h hk h22 h25
    have hc : ¬ (9 : Int32) ≤ nI k := nI_ge (b := 9) (by omega) (by decide)
    rw [qR_clearRow_44]
    simp only [w0, w1, w2i, w2r, w3, w4, w5_0, w5_1, w5_2, w5_3, w5_4, w5_5, w5_6, w5_7, w5_8, w6_0, w6_1, w7_0, w7_1, w7_2, w7_3, w7_4, w7_5, w8_0, w8_1, w9_0, w9_1, w9_2, w10_0, w10_1, w10_2, w10_3, w10_4, w10_5, w11, w12_0, w12_1, w12_2, w12_3, w12_4, w12_5, w13_0, w13_1, w13_2, w13_3, w13_4, w13_5, w14, w15i, w15r, w16, w17, w18, w19i, w19z, w19l, w20, w21, w22, w23, w24, w25, w26, w27, w28_1, w28_2, w28_3, w28_4, w28_5, w28_6, w29, w30i, w30z, w31, w32, w33, w34, w35, w36, w37_1, w37_2, w37_3, w37_4, w37_5, w37_6, isO_O, set1_0, set1_1i, set1_1r, set1_1n, set1_1l, set1_s, set2_0, set2_1i, set2_1r, set2_1n, set2_1l, set2_s, ldv_i, ldv_l, ldv_r, ldv_s, ldi_i, ldi_s, fK_0, fK_s, gfc_O, fS_0, fS_s, uH_s, uH_n, uH_u, tl_s, tl_n, b1_0, b1_1, ite_true, ite_false, if_true, if_false, List.length_nil, List.length_cons, Nat.zero_le, Nat.zero_add, Nat.reduceAdd, Nat.reduceLeDiff, Nat.reduceLT, Nat.reduceEqDiff, Nat.reduceMul, Nat.add_left_cancel_iff, not_false_eq_true, h22, h25, hc, hd, jR_clearRow_44, nI_add, nI_1, rJc_n (show 9 * a + k < 72 by omega) (show 72 < 2 ^ 31 by decide), rJc_n (show 9 * p + k < 72 by omega) (show 72 < 2 ^ 31 by decide), wJc_n (show 9 * a + k < 72 by omega) (show 72 < 2 ^ 31 by decide)]
    rw [ih (k + 1) _ (by omega) (by rw [uH_n _ _ (by omega)]; exact h22) (by rw [uH_s]; rfl), uH_u]
theorem R_clearRow {a p : Nat} {d : Int64} (h22 : h 22 = rO be re op sz) (h25 : h 25 = aJ 72 ro) (ha : a < 8) (hp : p < 8) : WpM 5 [.ref 22, .int (nI a), .int (nI p), .long d] h Q = Q none (uH h 25 (aJ 72 (crA ro a p d))) := by
  rw [eR_clearRow]
  simp only [qR_clearRow_0, qR_clearRow_7, jR_clearRow_7, w0, w1, w2i, w2r, w3, w4, w5_0, w5_1, w5_2, w5_3, w5_4, w5_5, w5_6, w5_7, w5_8, w6_0, w6_1, w7_0, w7_1, w7_2, w7_3, w7_4, w7_5, w8_0, w8_1, w9_0, w9_1, w9_2, w10_0, w10_1, w10_2, w10_3, w10_4, w10_5, w11, w12_0, w12_1, w12_2, w12_3, w12_4, w12_5, w13_0, w13_1, w13_2, w13_3, w13_4, w13_5, w14, w15i, w15r, w16, w17, w18, w19i, w19z, w19l, w20, w21, w22, w23, w24, w25, w26, w27, w28_1, w28_2, w28_3, w28_4, w28_5, w28_6, w29, w30i, w30z, w31, w32, w33, w34, w35, w36, w37_1, w37_2, w37_3, w37_4, w37_5, w37_6, isO_O, set1_0, set1_1i, set1_1r, set1_1n, set1_1l, set1_s, set2_0, set2_1i, set2_1r, set2_1n, set2_1l, set2_s, ldv_i, ldv_l, ldv_r, ldv_s, ldi_i, ldi_s, fK_0, fK_s, gfc_O, fS_0, fS_s, uH_s, uH_n, uH_u, tl_s, tl_n, b1_0, b1_1, ite_true, ite_false, if_true, if_false, List.length_nil, List.length_cons, Nat.zero_le, Nat.zero_add, Nat.reduceAdd, Nat.reduceLeDiff, Nat.reduceLT, Nat.reduceEqDiff, Nat.reduceMul, Nat.add_left_cancel_iff, not_false_eq_true, h22, h25, lg_cmp_eq, ne_eq, n9, nI_add, rJc_n (show 9 * a + p < 72 by omega) (show 72 < 2 ^ 31 by decide), rJc_n (show 9 * p + p < 72 by omega) (show 72 < 2 ^ 31 by decide)]
  unfold crA
  by_cases hd : d = 0
  · simp only [hd, not_true_eq_false, if_false, if_true]
    rw [uH_id h h25]
  · simp only [hd, not_false_eq_true, if_true, if_false]
    exact R_clearRow_loop (x := none) ha hp hd 9 0 h (by omega) h22 h25
theorem R_clearRows_in {k : Nat} {d : Int64} (ho : o < 256) (hm : m ≤ 8) (hk : k < 8) : ∀ (e i : Nat) (h : AH), i + e = m → h 22 = rO be re (nI o) (nI m) → h 25 = aJ 72 (ciF ro o k d i) → Wp none 4 qR_clearRows_26 [some (.ref 22), some (.long d), none, some (.int (nI k)), some (.int (nI i))] [] h Q = Wp none 4 qR_clearRows_67 [some (.ref 22), some (.long d), none, some (.int (nI k)), some (.int (nI m))] [] (uH h 25 (aJ 72 (ciF ro o k d m))) Q := by
  intro e
  induction e with
  | zero =>
    intro i h hi h22 h25
    have e : i = m := by omega
    subst e
    have hc : nI i ≤ nI i := nI_le (Nat.le_refl i) (by omega)
    rw [qR_clearRows_26]
    simp only [jR_clearRows_67, w0, w1, w2i, w2r, w3, w4, w5_0, w5_1, w5_2, w5_3, w5_4, w5_5, w5_6, w5_7, w5_8, w6_0, w6_1, w7_0, w7_1, w7_2, w7_3, w7_4, w7_5, w8_0, w8_1, w9_0, w9_1, w9_2, w10_0, w10_1, w10_2, w10_3, w10_4, w10_5, w11, w12_0, w12_1, w12_2, w12_3, w12_4, w12_5, w13_0, w13_1, w13_2, w13_3, w13_4, w13_5, w14, w15i, w15r, w16, w17, w18, w19i, w19z, w19l, w20, w21, w22, w23, w24, w25, w26, w27, w28_1, w28_2, w28_3, w28_4, w28_5, w28_6, w29, w30i, w30z, w31, w32, w33, w34, w35, w36, w37_1, w37_2, w37_3, w37_4, w37_5, w37_6, isO_O, set1_0, set1_1i, set1_1r, set1_1n, set1_1l, set1_s, set2_0, set2_1i, set2_1r, set2_1n, set2_1l, set2_s, ldv_i, ldv_l, ldv_r, ldv_s, ldi_i, ldi_s, fK_0, fK_s, gfc_O, fS_0, fS_s, uH_s, uH_n, uH_u, tl_s, tl_n, b1_0, b1_1, ite_true, ite_false, if_true, if_false, List.length_nil, List.length_cons, Nat.zero_le, Nat.zero_add, Nat.reduceAdd, Nat.reduceLeDiff, Nat.reduceLT, Nat.reduceEqDiff, Nat.reduceMul, Nat.add_left_cancel_iff, not_false_eq_true, h22, hc]
    rw [uH_id h h25]
  | succ e ih =>
    intro i h hi h22 h25
    have hc : ¬ nI m ≤ nI i := nI_ge (by omega) (by omega)
    have i8 : i < 8 := by omega
    rw [qR_clearRows_26]
    simp only [qR_clearRows_61, jR_clearRows_61, jR_clearRows_26, w0, w1, w2i, w2r, w3, w4, w5_0, w5_1, w5_2, w5_3, w5_4, w5_5, w5_6, w5_7, w5_8, w6_0, w6_1, w7_0, w7_1, w7_2, w7_3, w7_4, w7_5, w8_0, w8_1, w9_0, w9_1, w9_2, w10_0, w10_1, w10_2, w10_3, w10_4, w10_5, w11, w12_0, w12_1, w12_2, w12_3, w12_4, w12_5, w13_0, w13_1, w13_2, w13_3, w13_4, w13_5, w14, w15i, w15r, w16, w17, w18, w19i, w19z, w19l, w20, w21, w22, w23, w24, w25, w26, w27, w28_1, w28_2, w28_3, w28_4, w28_5, w28_6, w29, w30i, w30z, w31, w32, w33, w34, w35, w36, w37_1, w37_2, w37_3, w37_4, w37_5, w37_6, isO_O, set1_0, set1_1i, set1_1r, set1_1n, set1_1l, set1_s, set2_0, set2_1i, set2_1r, set2_1n, set2_1l, set2_s, ldv_i, ldv_l, ldv_r, ldv_s, ldi_i, ldi_s, fK_0, fK_s, gfc_O, fS_0, fS_s, uH_s, uH_n, uH_u, tl_s, tl_n, b1_0, b1_1, ite_true, ite_false, if_true, if_false, List.length_nil, List.length_cons, Nat.zero_le, Nat.zero_add, Nat.reduceAdd, Nat.reduceLeDiff, Nat.reduceLT, Nat.reduceEqDiff, Nat.reduceMul, Nat.add_left_cancel_iff, not_false_eq_true, h22, hc, nI_eq (show i < 2 ^ 31 by omega) (show k < 2 ^ 31 by omega), C_isIn, z01, bit1 (show o < 2 ^ 31 by omega) (show i < 31 by omega), R_clearRow h22 h25 i8 hk, nI_1]
    by_cases hik : i = k
    · rw [if_pos hik]
      have e1 : ciF ro o k d (i + 1) = ciF ro o k d i := by rw [ciF, if_neg (fun z => z.1 hik)]
      rw [ih (i + 1) h (by omega) h22 (by rw [e1]; exact h25)]
    · rw [if_neg hik]
      by_cases hb : o.testBit i = true
      · rw [if_neg (fun z => z hb)]
        have e1 : ciF ro o k d (i + 1) = crA (ciF ro o k d i) i k d := by rw [ciF, if_pos ⟨hik, hb⟩]
        rw [ih (i + 1) _ (by omega) (by rw [uH_n _ _ (by omega)]; exact h22) (by rw [uH_s, e1]), uH_u]
      · rw [if_pos hb]
        have e1 : ciF ro o k d (i + 1) = ciF ro o k d i := by rw [ciF, if_neg (fun z => hb z.2)]
        rw [ih (i + 1) h (by omega) h22 (by rw [e1]; exact h25)]
theorem R_clearRows_out (ho : o < 256) (hm : m ≤ 8) : ∀ (e k : Nat) (h : AH) (x : Option Value), k + e = m → h 22 = rO be re (nI o) (nI m) → h 25 = aJ 72 (coF ro o m k).1 → Wp none 4 qR_clearRows_4 [some (.ref 22), some (.long (coF ro o m k).2), none, some (.int (nI k)), x] [] h Q = Q none (uH (uH h 25 (aJ 72 (coF ro o m m).1)) 22 (rO (coF ro o m m).2 re (nI o) (nI m))) := by
  intro e
  induction e with
  | zero =>
    intro k h x hk h22 h25
    have e : k = m := by omega
    subst e
    have hc : nI k ≤ nI k := nI_le (Nat.le_refl k) (by omega)
    simp only [qR_clearRows_4, qR_clearRows_85, jR_clearRows_85, w0, w1, w2i, w2r, w3, w4, w5_0, w5_1, w5_2, w5_3, w5_4, w5_5, w5_6, w5_7, w5_8, w6_0, w6_1, w7_0, w7_1, w7_2, w7_3, w7_4, w7_5, w8_0, w8_1, w9_0, w9_1, w9_2, w10_0, w10_1, w10_2, w10_3, w10_4, w10_5, w11, w12_0, w12_1, w12_2, w12_3, w12_4, w12_5, w13_0, w13_1, w13_2, w13_3, w13_4, w13_5, w14, w15i, w15r, w16, w17, w18, w19i, w19z, w19l, w20, w21, w22, w23, w24, w25, w26, w27, w28_1, w28_2, w28_3, w28_4, w28_5, w28_6, w29, w30i, w30z, w31, w32, w33, w34, w35, w36, w37_1, w37_2, w37_3, w37_4, w37_5, w37_6, isO_O, set1_0, set1_1i, set1_1r, set1_1n, set1_1l, set1_s, set2_0, set2_1i, set2_1r, set2_1n, set2_1l, set2_s, ldv_i, ldv_l, ldv_r, ldv_s, ldi_i, ldi_s, fK_0, fK_s, gfc_O, fS_0, fS_s, uH_s, uH_n, uH_u, tl_s, tl_n, b1_0, b1_1, ite_true, ite_false, if_true, if_false, List.length_nil, List.length_cons, Nat.zero_le, Nat.zero_add, Nat.reduceAdd, Nat.reduceLeDiff, Nat.reduceLT, Nat.reduceEqDiff, Nat.reduceMul, Nat.add_left_cancel_iff, not_false_eq_true, h22, hc, pfc_0]
    rw [uH_id h h25]
  | succ e ih =>
    intro k h x hk h22 h25
    have hc : ¬ nI m ≤ nI k := nI_ge (by omega) (by omega)
    have k8 : k < 8 := by omega
    rw [qR_clearRows_4]
    simp only [qR_clearRows_79, jR_clearRows_79, jR_clearRows_4, w0, w1, w2i, w2r, w3, w4, w5_0, w5_1, w5_2, w5_3, w5_4, w5_5, w5_6, w5_7, w5_8, w6_0, w6_1, w7_0, w7_1, w7_2, w7_3, w7_4, w7_5, w8_0, w8_1, w9_0, w9_1, w9_2, w10_0, w10_1, w10_2, w10_3, w10_4, w10_5, w11, w12_0, w12_1, w12_2, w12_3, w12_4, w12_5, w13_0, w13_1, w13_2, w13_3, w13_4, w13_5, w14, w15i, w15r, w16, w17, w18, w19i, w19z, w19l, w20, w21, w22, w23, w24, w25, w26, w27, w28_1, w28_2, w28_3, w28_4, w28_5, w28_6, w29, w30i, w30z, w31, w32, w33, w34, w35, w36, w37_1, w37_2, w37_3, w37_4, w37_5, w37_6, isO_O, set1_0, set1_1i, set1_1r, set1_1n, set1_1l, set1_s, set2_0, set2_1i, set2_1r, set2_1n, set2_1l, set2_s, ldv_i, ldv_l, ldv_r, ldv_s, ldi_i, ldi_s, fK_0, fK_s, gfc_O, fS_0, fS_s, uH_s, uH_n, uH_u, tl_s, tl_n, b1_0, b1_1, ite_true, ite_false, if_true, if_false, List.length_nil, List.length_cons, Nat.zero_le, Nat.zero_add, Nat.reduceAdd, Nat.reduceLeDiff, Nat.reduceLT, Nat.reduceEqDiff, Nat.reduceMul, Nat.add_left_cancel_iff, not_false_eq_true, h22, hc, C_isIn, z01, bit1 (show o < 2 ^ 31 by omega) (show k < 31 by omega), nI_1]
    by_cases hb : o.testBit k = true
    · rw [if_neg (fun z => z hb)]
      have e1 : coF ro o m (k + 1) = (ciF (coF ro o m k).1 o k (coF ro o m k).2 m, ciF (coF ro o m k).1 o k (coF ro o m k).2 m (9 * k + k)) := by rw [coF, if_pos hb]
      have e2 := R_clearRows_in (Q := Q) (ro := (coF ro o m k).1) (d := (coF ro o m k).2) ho hm k8 m 0 h (by omega) h22 h25
      rw [show nI 0 = 0 from rfl] at e2
      rw [e2]
      simp only [qR_clearRows_67, qR_clearRows_79, jR_clearRows_79, jR_clearRows_4, w0, w1, w2i, w2r, w3, w4, w5_0, w5_1, w5_2, w5_3, w5_4, w5_5, w5_6, w5_7, w5_8, w6_0, w6_1, w7_0, w7_1, w7_2, w7_3, w7_4, w7_5, w8_0, w8_1, w9_0, w9_1, w9_2, w10_0, w10_1, w10_2, w10_3, w10_4, w10_5, w11, w12_0, w12_1, w12_2, w12_3, w12_4, w12_5, w13_0, w13_1, w13_2, w13_3, w13_4, w13_5, w14, w15i, w15r, w16, w17, w18, w19i, w19z, w19l, w20, w21, w22, w23, w24, w25, w26, w27, w28_1, w28_2, w28_3, w28_4, w28_5, w28_6, w29, w30i, w30z, w31, w32, w33, w34, w35, w36, w37_1, w37_2, w37_3, w37_4, w37_5, w37_6, isO_O, set1_0, set1_1i, set1_1r, set1_1n, set1_1l, set1_s, set2_0, set2_1i, set2_1r, set2_1n, set2_1l, set2_s, ldv_i, ldv_l, ldv_r, ldv_s, ldi_i, ldi_s, fK_0, fK_s, gfc_O, fS_0, fS_s, uH_s, uH_n, uH_u, tl_s, tl_n, b1_0, b1_1, ite_true, ite_false, if_true, if_false, List.length_nil, List.length_cons, Nat.zero_le, Nat.zero_add, Nat.reduceAdd, Nat.reduceLeDiff, Nat.reduceLT, Nat.reduceEqDiff, Nat.reduceMul, Nat.add_left_cancel_iff, not_false_eq_true, h22, n9, nI_add, nI_1, rJc_n (show 9 * k + k < 72 by omega) (show 72 < 2 ^ 31 by decide)]
      have ih := ih (k + 1) (uH h 25 (aJ 72 (ciF (coF ro o m k).1 o k (coF ro o m k).2 m))) (some (.int (nI m))) (by omega) (by rw [uH_n _ _ (by omega)]; exact h22) (by rw [uH_s, e1])
      rw [e1, uH_u] at ih
      exact ih
    · rw [if_pos hb]
      have e1 : coF ro o m (k + 1) = coF ro o m k := by rw [coF, if_neg hb]
      have ih := ih (k + 1) h x (by omega) h22 (by rw [e1]; exact h25)
      rw [e1] at ih
      exact ih
theorem R_clearRows (h22 : h 22 = rO be re (nI o) (nI m)) (h25 : h 25 = aJ 72 ro) (ho : o < 256) (hm : m ≤ 8) : WpM 4 [.ref 22] h Q = Q none (uH (uH h 25 (aJ 72 (coF ro o m m).1)) 22 (rO (coF ro o m m).2 re (nI o) (nI m))) := by
  rw [eR_clearRows]
  simp only [qR_clearRows_0, w0, w1, w2i, w2r, w3, w4, w5_0, w5_1, w5_2, w5_3, w5_4, w5_5, w5_6, w5_7, w5_8, w6_0, w6_1, w7_0, w7_1, w7_2, w7_3, w7_4, w7_5, w8_0, w8_1, w9_0, w9_1, w9_2, w10_0, w10_1, w10_2, w10_3, w10_4, w10_5, w11, w12_0, w12_1, w12_2, w12_3, w12_4, w12_5, w13_0, w13_1, w13_2, w13_3, w13_4, w13_5, w14, w15i, w15r, w16, w17, w18, w19i, w19z, w19l, w20, w21, w22, w23, w24, w25, w26, w27, w28_1, w28_2, w28_3, w28_4, w28_5, w28_6, w29, w30i, w30z, w31, w32, w33, w34, w35, w36, w37_1, w37_2, w37_3, w37_4, w37_5, w37_6, isO_O, set1_0, set1_1i, set1_1r, set1_1n, set1_1l, set1_s, set2_0, set2_1i, set2_1r, set2_1n, set2_1l, set2_s, ldv_i, ldv_l, ldv_r, ldv_s, ldi_i, ldi_s, fK_0, fK_s, gfc_O, fS_0, fS_s, uH_s, uH_n, uH_u, tl_s, tl_n, b1_0, b1_1, ite_true, ite_false, if_true, if_false, List.length_nil, List.length_cons, Nat.zero_le, Nat.zero_add, Nat.reduceAdd, Nat.reduceLeDiff, Nat.reduceLT, Nat.reduceEqDiff, Nat.reduceMul, Nat.add_left_cancel_iff, not_false_eq_true]
  exact R_clearRows_out ho hm m 0 h none (by omega) h22 h25
theorem R_fillRows_in {a : Nat} {mm : Nat} (ht : t + 6 < 22) (ha : a < 8) : ∀ (e k : Nat) (h : AH), k + e = 8 → h 22 = rO be re op sz → h 25 = aJ 72 (flI ro sh a k) → h t = tO t (nI m) pu ye → h (t + 5) = aI 64 sh → Wp none 3 qR_fillRows_29 [some (.ref 22), some (.ref t), some (.int (nI a)), some (.int (nI (9 * a))), some (.int (nI k))] [] h Q = Wp none 3 qR_fillRows_60 [some (.ref 22), some (.ref t), some (.int (nI a)), some (.int (nI (9 * a))), some (.int (nI 8))] [] (uH h 25 (aJ 72 (flI ro sh a 8))) Q := by
  intro e
  induction e with
  | zero =>
    intro k h hk h22 h25 h0 h5
    have e : k = 8 := by omega
    subst e
    have hc : (8 : Int32) ≤ nI 8 := by decide
    rw [qR_fillRows_29]
    simp only [jR_fillRows_60, w0, w1, w2i, w2r, w3, w4, w5_0, w5_1, w5_2, w5_3, w5_4, w5_5, w5_6, w5_7, w5_8, w6_0, w6_1, w7_0, w7_1, w7_2, w7_3, w7_4, w7_5, w8_0, w8_1, w9_0, w9_1, w9_2, w10_0, w10_1, w10_2, w10_3, w10_4, w10_5, w11, w12_0, w12_1, w12_2, w12_3, w12_4, w12_5, w13_0, w13_1, w13_2, w13_3, w13_4, w13_5, w14, w15i, w15r, w16, w17, w18, w19i, w19z, w19l, w20, w21, w22, w23, w24, w25, w26, w27, w28_1, w28_2, w28_3, w28_4, w28_5, w28_6, w29, w30i, w30z, w31, w32, w33, w34, w35, w36, w37_1, w37_2, w37_3, w37_4, w37_5, w37_6, isO_O, set1_0, set1_1i, set1_1r, set1_1n, set1_1l, set1_s, set2_0, set2_1i, set2_1r, set2_1n, set2_1l, set2_s, ldv_i, ldv_l, ldv_r, ldv_s, ldi_i, ldi_s, fK_0, fK_s, gfc_O, fS_0, fS_s, uH_s, uH_n, uH_u, tl_s, tl_n, b1_0, b1_1, ite_true, ite_false, if_true, if_false, List.length_nil, List.length_cons, Nat.zero_le, Nat.zero_add, Nat.reduceAdd, Nat.reduceLeDiff, Nat.reduceLT, Nat.reduceEqDiff, Nat.reduceMul, Nat.add_left_cancel_iff, not_false_eq_true, hc]
    rw [uH_id h h25]
  | succ e ih =>
    intro k h hk h22 h25 h0 h5
    have hc : ¬ (8 : Int32) ≤ nI k := nI_ge (b := 8) (by omega) (by decide)
    rw [qR_fillRows_29]
    simp only [jR_fillRows_29, w0, w1, w2i, w2r, w3, w4, w5_0, w5_1, w5_2, w5_3, w5_4, w5_5, w5_6, w5_7, w5_8, w6_0, w6_1, w7_0, w7_1, w7_2, w7_3, w7_4, w7_5, w8_0, w8_1, w9_0, w9_1, w9_2, w10_0, w10_1, w10_2, w10_3, w10_4, w10_5, w11, w12_0, w12_1, w12_2, w12_3, w12_4, w12_5, w13_0, w13_1, w13_2, w13_3, w13_4, w13_5, w14, w15i, w15r, w16, w17, w18, w19i, w19z, w19l, w20, w21, w22, w23, w24, w25, w26, w27, w28_1, w28_2, w28_3, w28_4, w28_5, w28_6, w29, w30i, w30z, w31, w32, w33, w34, w35, w36, w37_1, w37_2, w37_3, w37_4, w37_5, w37_6, isO_O, set1_0, set1_1i, set1_1r, set1_1n, set1_1l, set1_s, set2_0, set2_1i, set2_1r, set2_1n, set2_1l, set2_s, ldv_i, ldv_l, ldv_r, ldv_s, ldi_i, ldi_s, fK_0, fK_s, gfc_O, fS_0, fS_s, uH_s, uH_n, uH_u, tl_s, tl_n, b1_0, b1_1, ite_true, ite_false, if_true, if_false, List.length_nil, List.length_cons, Nat.zero_le, Nat.zero_add, Nat.reduceAdd, Nat.reduceLeDiff, Nat.reduceLT, Nat.reduceEqDiff, Nat.reduceMul, Nat.add_left_cancel_iff, not_false_eq_true, h22, h25, h0, hc, T_shareOf h0 h5 ha (show k < 8 by omega), nI_add, nI_1, wJc_n (show 9 * a + k < 72 by omega) (show 72 < 2 ^ 31 by decide)]
    rw [ih (k + 1) _ (by omega) (by rw [uH_n _ _ (by omega)]; exact h22) (by rw [uH_s]; rfl) (by rw [uH_n _ _ (by omega)]; exact h0) (by rw [uH_n _ _ (by omega)]; exact h5), uH_u]
theorem R_fillRows_out (ht : t + 6 < 22) (ho : o < 256) (hm : m ≤ 8) : ∀ (e a : Nat) (h : AH) (x y : Option Value), a + e = m → h 22 = rO be re (nI o) (nI m) → h 25 = aJ 72 (flO ro sh o m a) → h t = tO t (nI m) pu ye → h (t + 5) = aI 64 sh → Wp none 3 qR_fillRows_2 [some (.ref 22), some (.ref t), some (.int (nI a)), x, y] [] h Q = Q none (uH h 25 (aJ 72 (flO ro sh o m m))) := by
  intro e
  induction e with
  | zero =>
    intro a h x y ha h22 h25 h0 h5
    have e : a = m := by omega
    subst e
    have hc : nI a ≤ nI a := nI_le (Nat.le_refl a) (by omega)
    simp only [qR_fillRows_2, qR_fillRows_96, jR_fillRows_96, w0, w1, w2i, w2r, w3, w4, w5_0, w5_1, w5_2, w5_3, w5_4, w5_5, w5_6, w5_7, w5_8, w6_0, w6_1, w7_0, w7_1, w7_2, w7_3, w7_4, w7_5, w8_0, w8_1, w9_0, w9_1, w9_2, w10_0, w10_1, w10_2, w10_3, w10_4, w10_5, w11, w12_0, w12_1, w12_2, w12_3, w12_4, w12_5, w13_0, w13_1, w13_2, w13_3, w13_4, w13_5, w14, w15i, w15r, w16, w17, w18, w19i, w19z, w19l, w20, w21, w22, w23, w24, w25, w26, w27, w28_1, w28_2, w28_3, w28_4, w28_5, w28_6, w29, w30i, w30z, w31, w32, w33, w34, w35, w36, w37_1, w37_2, w37_3, w37_4, w37_5, w37_6, isO_O, set1_0, set1_1i, set1_1r, set1_1n, set1_1l, set1_s, set2_0, set2_1i, set2_1r, set2_1n, set2_1l, set2_s, ldv_i, ldv_l, ldv_r, ldv_s, ldi_i, ldi_s, fK_0, fK_s, gfc_O, fS_0, fS_s, uH_s, uH_n, uH_u, tl_s, tl_n, b1_0, b1_1, ite_true, ite_false, if_true, if_false, List.length_nil, List.length_cons, Nat.zero_le, Nat.zero_add, Nat.reduceAdd, Nat.reduceLeDiff, Nat.reduceLT, Nat.reduceEqDiff, Nat.reduceMul, Nat.add_left_cancel_iff, not_false_eq_true, h22, hc]
    rw [uH_id h h25]
  | succ e ih =>
    intro a h x y ha h22 h25 h0 h5
    have hc : ¬ nI m ≤ nI a := nI_ge (by omega) (by omega)
    have a8 : a < 8 := by omega
    rw [qR_fillRows_2]
    have e2 := R_fillRows_in (Q := Q) (mm := m) (ro := flO ro sh o m a) ht a8 8 0 h (by omega) h22 h25 h0 h5
    rw [show nI 0 = 0 from rfl] at e2
    simp only [qR_fillRows_90, jR_fillRows_90, jR_fillRows_2, w0, w1, w2i, w2r, w3, w4, w5_0, w5_1, w5_2, w5_3, w5_4, w5_5, w5_6, w5_7, w5_8, w6_0, w6_1, w7_0, w7_1, w7_2, w7_3, w7_4, w7_5, w8_0, w8_1, w9_0, w9_1, w9_2, w10_0, w10_1, w10_2, w10_3, w10_4, w10_5, w11, w12_0, w12_1, w12_2, w12_3, w12_4, w12_5, w13_0, w13_1, w13_2, w13_3, w13_4, w13_5, w14, w15i, w15r, w16, w17, w18, w19i, w19z, w19l, w20, w21, w22, w23, w24, w25, w26, w27, w28_1, w28_2, w28_3, w28_4, w28_5, w28_6, w29, w30i, w30z, w31, w32, w33, w34, w35, w36, w37_1, w37_2, w37_3, w37_4, w37_5, w37_6, isO_O, set1_0, set1_1i, set1_1r, set1_1n, set1_1l, set1_s, set2_0, set2_1i, set2_1r, set2_1n, set2_1l, set2_s, ldv_i, ldv_l, ldv_r, ldv_s, ldi_i, ldi_s, fK_0, fK_s, gfc_O, fS_0, fS_s, uH_s, uH_n, uH_u, tl_s, tl_n, b1_0, b1_1, ite_true, ite_false, if_true, if_false, List.length_nil, List.length_cons, Nat.zero_le, Nat.zero_add, Nat.reduceAdd, Nat.reduceLeDiff, Nat.reduceLT, Nat.reduceEqDiff, Nat.reduceMul, Nat.add_left_cancel_iff, not_false_eq_true, h22, hc, C_isIn, z01, bit1 (show o < 2 ^ 31 by omega) (show a < 31 by omega), n9, nI_1]
    by_cases hb : o.testBit a = true
    · rw [if_neg (fun z => z hb), e2]
      have e1 : flO ro sh o m (a + 1) = vp_updL (vp_updL (flI (flO ro sh o m a) sh a 8) (9 * a + a) (wt sh a m).toInt64) (9 * a + 8) (wt sh a m).toInt64 := by rw [flO, if_pos hb]
      have g0 : (uH h 25 (aJ 72 (flI (flO ro sh o m a) sh a 8))) t = tO t (nI m) pu ye := by rw [uH_n _ _ (by omega)]; exact h0
      have g5 : (uH h 25 (aJ 72 (flI (flO ro sh o m a) sh a 8))) (t + 5) = aI 64 sh := by rw [uH_n _ _ (by omega)]; exact h5
      simp only [qR_fillRows_60, qR_fillRows_90, jR_fillRows_90, jR_fillRows_2, w0, w1, w2i, w2r, w3, w4, w5_0, w5_1, w5_2, w5_3, w5_4, w5_5, w5_6, w5_7, w5_8, w6_0, w6_1, w7_0, w7_1, w7_2, w7_3, w7_4, w7_5, w8_0, w8_1, w9_0, w9_1, w9_2, w10_0, w10_1, w10_2, w10_3, w10_4, w10_5, w11, w12_0, w12_1, w12_2, w12_3, w12_4, w12_5, w13_0, w13_1, w13_2, w13_3, w13_4, w13_5, w14, w15i, w15r, w16, w17, w18, w19i, w19z, w19l, w20, w21, w22, w23, w24, w25, w26, w27, w28_1, w28_2, w28_3, w28_4, w28_5, w28_6, w29, w30i, w30z, w31, w32, w33, w34, w35, w36, w37_1, w37_2, w37_3, w37_4, w37_5, w37_6, isO_O, set1_0, set1_1i, set1_1r, set1_1n, set1_1l, set1_s, set2_0, set2_1i, set2_1r, set2_1n, set2_1l, set2_s, ldv_i, ldv_l, ldv_r, ldv_s, ldi_i, ldi_s, fK_0, fK_s, gfc_O, fS_0, fS_s, uH_s, uH_n, uH_u, tl_s, tl_n, b1_0, b1_1, ite_true, ite_false, if_true, if_false, List.length_nil, List.length_cons, Nat.zero_le, Nat.zero_add, Nat.reduceAdd, Nat.reduceLeDiff, Nat.reduceLT, Nat.reduceEqDiff, Nat.reduceMul, Nat.add_left_cancel_iff, not_false_eq_true, g0, h22, T_weight g0 g5 hm a8, nI_add, n8p, nI_1, wJc_n (show 9 * a + a < 72 by omega) (show 72 < 2 ^ 31 by decide), wJc_n (show 9 * a + 8 < 72 by omega) (show 72 < 2 ^ 31 by decide)]
      rw [ih (a + 1) _ _ _ (by omega) (by rw [uH_n _ _ (by omega)]; exact h22) (by rw [uH_s, e1]) (by rw [uH_n _ _ (by omega)]; exact h0) (by rw [uH_n _ _ (by omega)]; exact h5), uH_u]
    · rw [if_pos hb]
      have e1 : flO ro sh o m (a + 1) = flO ro sh o m a := by rw [flO, if_neg hb]
      exact ih (a + 1) h x y (by omega) h22 (by rw [e1]; exact h25) h0 h5
theorem R_fillRows (ht : t + 6 < 22) (h22 : h 22 = rO be re (nI o) (nI m)) (h25 : h 25 = aJ 72 ro) (h0 : h t = tO t (nI m) pu ye) (h5 : h (t + 5) = aI 64 sh) (ho : o < 256) (hm : m ≤ 8) : WpM 3 [.ref 22, .ref t] h Q = Q none (uH h 25 (aJ 72 (flO ro sh o m m))) := by
  rw [eR_fillRows]
  simp only [qR_fillRows_0, w0, w1, w2i, w2r, w3, w4, w5_0, w5_1, w5_2, w5_3, w5_4, w5_5, w5_6, w5_7, w5_8, w6_0, w6_1, w7_0, w7_1, w7_2, w7_3, w7_4, w7_5, w8_0, w8_1, w9_0, w9_1, w9_2, w10_0, w10_1, w10_2, w10_3, w10_4, w10_5, w11, w12_0, w12_1, w12_2, w12_3, w12_4, w12_5, w13_0, w13_1, w13_2, w13_3, w13_4, w13_5, w14, w15i, w15r, w16, w17, w18, w19i, w19z, w19l, w20, w21, w22, w23, w24, w25, w26, w27, w28_1, w28_2, w28_3, w28_4, w28_5, w28_6, w29, w30i, w30z, w31, w32, w33, w34, w35, w36, w37_1, w37_2, w37_3, w37_4, w37_5, w37_6, isO_O, set1_0, set1_1i, set1_1r, set1_1n, set1_1l, set1_s, set2_0, set2_1i, set2_1r, set2_1n, set2_1l, set2_s, ldv_i, ldv_l, ldv_r, ldv_s, ldi_i, ldi_s, fK_0, fK_s, gfc_O, fS_0, fS_s, uH_s, uH_n, uH_u, tl_s, tl_n, b1_0, b1_1, ite_true, ite_false, if_true, if_false, List.length_nil, List.length_cons, Nat.zero_le, Nat.zero_add, Nat.reduceAdd, Nat.reduceLeDiff, Nat.reduceLT, Nat.reduceEqDiff, Nat.reduceMul, Nat.add_left_cancel_iff, not_false_eq_true]
  exact R_fillRows_out ht ho hm m 0 h none none (by omega) h22 h25 h0 h5
theorem R_rentAbove_loop {a : Nat} (h22 : h 22 = rO be (nI r) (nI o) (nI m)) (h24 : h 24 = aI 8 ak) (h25 : h 25 = aJ 72 ro) (hr : r < 256) (ho : o < 256) (hm : m ≤ 8) (ha : a < 8) : ∀ (e i : Nat), i + e = m → Wp none 6 qR_rentAbove_5 [some (.ref 22), some (.int (nI a)), some (.long (raF ro r o be ak a i)), none, some (.int (nI i))] [] h Q = Q (some (.long (raF ro r o be ak a m))) h := by
  have hx : andn r o < 2 ^ 8 := andn_lt hr
  intro e
  induction e with
  | zero =>
    intro i hi
    have e : i = m := by omega
    subst e
    have hc : nI i ≤ nI i := nI_le (Nat.le_refl i) (by omega)
    simp only [qR_rentAbove_5, qR_rentAbove_58, jR_rentAbove_58, w0, w1, w2i, w2r, w3, w4, w5_0, w5_1, w5_2, w5_3, w5_4, w5_5, w5_6, w5_7, w5_8, w6_0, w6_1, w7_0, w7_1, w7_2, w7_3, w7_4, w7_5, w8_0, w8_1, w9_0, w9_1, w9_2, w10_0, w10_1, w10_2, w10_3, w10_4, w10_5, w11, w12_0, w12_1, w12_2, w12_3, w12_4, w12_5, w13_0, w13_1, w13_2, w13_3, w13_4, w13_5, w14, w15i, w15r, w16, w17, w18, w19i, w19z, w19l, w20, w21, w22, w23, w24, w25, w26, w27, w28_1, w28_2, w28_3, w28_4, w28_5, w28_6, w29, w30i, w30z, w31, w32, w33, w34, w35, w36, w37_1, w37_2, w37_3, w37_4, w37_5, w37_6, isO_O, set1_0, set1_1i, set1_1r, set1_1n, set1_1l, set1_s, set2_0, set2_1i, set2_1r, set2_1n, set2_1l, set2_s, ldv_i, ldv_l, ldv_r, ldv_s, ldi_i, ldi_s, fK_0, fK_s, gfc_O, fS_0, fS_s, uH_s, uH_n, uH_u, tl_s, tl_n, b1_0, b1_1, ite_true, ite_false, if_true, if_false, List.length_nil, List.length_cons, Nat.zero_le, Nat.zero_add, Nat.reduceAdd, Nat.reduceLeDiff, Nat.reduceLT, Nat.reduceEqDiff, Nat.reduceMul, Nat.add_left_cancel_iff, not_false_eq_true, h22, hc]
  | succ e ih =>
    intro i hi
    have hc : ¬ nI m ≤ nI i := nI_ge (by omega) (by omega)
    have i8 : i < 8 := by omega
    rw [qR_rentAbove_5]
    simp only [qR_rentAbove_52, jR_rentAbove_52, jR_rentAbove_5, w0, w1, w2i, w2r, w3, w4, w5_0, w5_1, w5_2, w5_3, w5_4, w5_5, w5_6, w5_7, w5_8, w6_0, w6_1, w7_0, w7_1, w7_2, w7_3, w7_4, w7_5, w8_0, w8_1, w9_0, w9_1, w9_2, w10_0, w10_1, w10_2, w10_3, w10_4, w10_5, w11, w12_0, w12_1, w12_2, w12_3, w12_4, w12_5, w13_0, w13_1, w13_2, w13_3, w13_4, w13_5, w14, w15i, w15r, w16, w17, w18, w19i, w19z, w19l, w20, w21, w22, w23, w24, w25, w26, w27, w28_1, w28_2, w28_3, w28_4, w28_5, w28_6, w29, w30i, w30z, w31, w32, w33, w34, w35, w36, w37_1, w37_2, w37_3, w37_4, w37_5, w37_6, isO_O, set1_0, set1_1i, set1_1r, set1_1n, set1_1l, set1_s, set2_0, set2_1i, set2_1r, set2_1n, set2_1l, set2_s, ldv_i, ldv_l, ldv_r, ldv_s, ldi_i, ldi_s, fK_0, fK_s, gfc_O, fS_0, fS_s, uH_s, uH_n, uH_u, tl_s, tl_n, b1_0, b1_1, ite_true, ite_false, if_true, if_false, List.length_nil, List.length_cons, Nat.zero_le, Nat.zero_add, Nat.reduceAdd, Nat.reduceLeDiff, Nat.reduceLT, Nat.reduceEqDiff, Nat.reduceMul, Nat.add_left_cancel_iff, not_false_eq_true, h22, h24, hc, nI_andn, C_isIn, z01, bit1 (show andn r o < 2 ^ 31 by omega) (show i < 31 by omega), R_movesAbove h22 h25 ho ha i8, rIc_n i8 (show 8 < 2 ^ 31 by decide), nI_1]
    have ih := ih (i + 1) (by omega)
    by_cases hb : (andn r o).testBit i = true
    · rw [if_neg (fun z => z hb)]
      rw [raF, if_pos hb] at ih
      exact ih
    · rw [if_pos hb]
      rw [raF, if_neg hb] at ih
      exact ih
theorem R_rentAbove {a : Nat} (h22 : h 22 = rO be (nI r) (nI o) (nI m)) (h24 : h 24 = aI 8 ak) (h25 : h 25 = aJ 72 ro) (hr : r < 256) (ho : o < 256) (hm : m ≤ 8) (ha : a < 8) : WpM 6 [.ref 22, .int (nI a)] h Q = Q (some (.long (raF ro r o be ak a m))) h := by
  rw [eR_rentAbove]
  simp only [qR_rentAbove_0, w0, w1, w2i, w2r, w3, w4, w5_0, w5_1, w5_2, w5_3, w5_4, w5_5, w5_6, w5_7, w5_8, w6_0, w6_1, w7_0, w7_1, w7_2, w7_3, w7_4, w7_5, w8_0, w8_1, w9_0, w9_1, w9_2, w10_0, w10_1, w10_2, w10_3, w10_4, w10_5, w11, w12_0, w12_1, w12_2, w12_3, w12_4, w12_5, w13_0, w13_1, w13_2, w13_3, w13_4, w13_5, w14, w15i, w15r, w16, w17, w18, w19i, w19z, w19l, w20, w21, w22, w23, w24, w25, w26, w27, w28_1, w28_2, w28_3, w28_4, w28_5, w28_6, w29, w30i, w30z, w31, w32, w33, w34, w35, w36, w37_1, w37_2, w37_3, w37_4, w37_5, w37_6, isO_O, set1_0, set1_1i, set1_1r, set1_1n, set1_1l, set1_s, set2_0, set2_1i, set2_1r, set2_1n, set2_1l, set2_s, ldv_i, ldv_l, ldv_r, ldv_s, ldi_i, ldi_s, fK_0, fK_s, gfc_O, fS_0, fS_s, uH_s, uH_n, uH_u, tl_s, tl_n, b1_0, b1_1, ite_true, ite_false, if_true, if_false, List.length_nil, List.length_cons, Nat.zero_le, Nat.zero_add, Nat.reduceAdd, Nat.reduceLeDiff, Nat.reduceLT, Nat.reduceEqDiff, Nat.reduceMul, Nat.add_left_cancel_iff, not_false_eq_true]
  exact R_rentAbove_loop h22 h24 h25 hr ho hm ha m 0 (by omega)
theorem R_solve_loop (hr : r < 256) (ho : o < 256) (hm : m ≤ 8) : ∀ (e i : Nat) (h : AH), i + e = m → h 22 = rO be (nI r) (nI o) (nI m) → h 23 = aJ 8 (abF ab ro r o be ak m i) → h 24 = aI 8 ak → h 25 = aJ 72 ro → Wp none 2 qR_solve_57 [some (.ref 22), some (.ref t), some (.int (nI i))] [] h Q = Q none (uH h 23 (aJ 8 (abF ab ro r o be ak m m))) := by
  intro e
  induction e with
  | zero =>
    intro i h hi h22 h23 h24 h25
    have e : i = m := by omega
    subst e
    have hc : nI i ≤ nI i := nI_le (Nat.le_refl i) (by omega)
    simp only [qR_solve_57, qR_solve_94, jR_solve_94, w0, w1, w2i, w2r, w3, w4, w5_0, w5_1, w5_2, w5_3, w5_4, w5_5, w5_6, w5_7, w5_8, w6_0, w6_1, w7_0, w7_1, w7_2, w7_3, w7_4, w7_5, w8_0, w8_1, w9_0, w9_1, w9_2, w10_0, w10_1, w10_2, w10_3, w10_4, w10_5, w11, w12_0, w12_1, w12_2, w12_3, w12_4, w12_5, w13_0, w13_1, w13_2, w13_3, w13_4, w13_5, w14, w15i, w15r, w16, w17, w18, w19i, w19z, w19l, w20, w21, w22, w23, w24, w25, w26, w27, w28_1, w28_2, w28_3, w28_4, w28_5, w28_6, w29, w30i, w30z, w31, w32, w33, w34, w35, w36, w37_1, w37_2, w37_3, w37_4, w37_5, w37_6, isO_O, set1_0, set1_1i, set1_1r, set1_1n, set1_1l, set1_s, set2_0, set2_1i, set2_1r, set2_1n, set2_1l, set2_s, ldv_i, ldv_l, ldv_r, ldv_s, ldi_i, ldi_s, fK_0, fK_s, gfc_O, fS_0, fS_s, uH_s, uH_n, uH_u, tl_s, tl_n, b1_0, b1_1, ite_true, ite_false, if_true, if_false, List.length_nil, List.length_cons, Nat.zero_le, Nat.zero_add, Nat.reduceAdd, Nat.reduceLeDiff, Nat.reduceLT, Nat.reduceEqDiff, Nat.reduceMul, Nat.add_left_cancel_iff, not_false_eq_true, h22, hc]
    rw [uH_id h h23]
  | succ e ih =>
    intro i h hi h22 h23 h24 h25
    have hc : ¬ nI m ≤ nI i := nI_ge (by omega) (by omega)
    have i8 : i < 8 := by omega
    rw [qR_solve_57]
    simp only [qR_solve_86, jR_solve_86, qR_solve_87, jR_solve_87, jR_solve_57, w0, w1, w2i, w2r, w3, w4, w5_0, w5_1, w5_2, w5_3, w5_4, w5_5, w5_6, w5_7, w5_8, w6_0, w6_1, w7_0, w7_1, w7_2, w7_3, w7_4, w7_5, w8_0, w8_1, w9_0, w9_1, w9_2, w10_0, w10_1, w10_2, w10_3, w10_4, w10_5, w11, w12_0, w12_1, w12_2, w12_3, w12_4, w12_5, w13_0, w13_1, w13_2, w13_3, w13_4, w13_5, w14, w15i, w15r, w16, w17, w18, w19i, w19z, w19l, w20, w21, w22, w23, w24, w25, w26, w27, w28_1, w28_2, w28_3, w28_4, w28_5, w28_6, w29, w30i, w30z, w31, w32, w33, w34, w35, w36, w37_1, w37_2, w37_3, w37_4, w37_5, w37_6, isO_O, set1_0, set1_1i, set1_1r, set1_1n, set1_1l, set1_s, set2_0, set2_1i, set2_1r, set2_1n, set2_1l, set2_s, ldv_i, ldv_l, ldv_r, ldv_s, ldi_i, ldi_s, fK_0, fK_s, gfc_O, fS_0, fS_s, uH_s, uH_n, uH_u, tl_s, tl_n, b1_0, b1_1, ite_true, ite_false, if_true, if_false, List.length_nil, List.length_cons, Nat.zero_le, Nat.zero_add, Nat.reduceAdd, Nat.reduceLeDiff, Nat.reduceLT, Nat.reduceEqDiff, Nat.reduceMul, Nat.add_left_cancel_iff, not_false_eq_true, h22, h23, hc, R_reaches h22 hr i8, z01, R_rentAbove h22 h24 h25 hr ho hm i8, wJc_n i8 (show 8 < 2 ^ 31 by decide), nI_1]
    by_cases hb : r.testBit i = true
    · rw [if_neg (fun z => z hb)]
      rw [ih (i + 1) _ (by omega) (by rw [uH_n _ _ (by omega)]; exact h22) (by rw [uH_s, abF, if_pos hb]) (by rw [uH_n _ _ (by omega)]; exact h24) (by rw [uH_n _ _ (by omega)]; exact h25), uH_u]
    · rw [if_pos hb]
      rw [ih (i + 1) _ (by omega) (by rw [uH_n _ _ (by omega)]; exact h22) (by rw [uH_s, abF, if_neg hb]) (by rw [uH_n _ _ (by omega)]; exact h24) (by rw [uH_n _ _ (by omega)]; exact h25), uH_u]
theorem T_reachedSet_n (h0 : h t = tO t (nI m) pu ye) (h1 : h (t + 1) = aI 8 ki) (h5 : h (t + 5) = aI 64 sh) (hm : m ≤ 8) : WpM 36 [.ref t] h Q = Q (some (.int (nI (rcF ki sh m)))) h := T_reachedSet (fxB ki) (fun a _ => by simp [fxB]) (bsF sh m) (adB sh) (fun a b _ _ => by simp [adB]) (fun a => rfl) h0 h1 h5 hm
theorem T_fixedSet_n (h0 : h t = tO t (nI m) pu ye) (h1 : h (t + 1) = aI 8 ki) (hm : m ≤ 8) : WpM 35 [.ref t] h Q = Q (some (.int (nI (fxN ki m)))) h := T_fixedSet (fxB ki) (fun a _ => by simp [fxB]) h0 h1 hm
/-- the open houses -/
def opN (ki sh : Nat → Int32) (m : Nat) : Nat := andn (rcF ki sh m) (fxN ki m)
/-- the rows when they are solved, and what is below -/
def slR (ro : Nat → Int64) (ki sh : Nat → Int32) (m : Nat) : (Nat → Int64) × Int64 := coF (flO ro sh (opN ki sh m) m m) (opN ki sh m) m m
theorem R_solve (ht : t + 6 < 22) (h22 : h 22 = rO be re op sz) (h23 : h 23 = aJ 8 ab) (h24 : h 24 = aI 8 ak) (h25 : h 25 = aJ 72 ro) (h0 : h t = tO t (nI m) pu ye) (h1 : h (t + 1) = aI 8 ki) (h2 : h (t + 2) = aI 8 as) (h5 : h (t + 5) = aI 64 sh) (hm : m ≤ 8) : WpM 2 [.ref 22, .ref t] h Q = Q none (uH (uH (uH (uH h 22 (rO (slR ro ki sh m).2 (nI (rcF ki sh m)) (nI (opN ki sh m)) (nI m))) 25 (aJ 72 (slR ro ki sh m).1)) 24 (aI 8 (va_cpy as ak 0 0 8))) 23 (aJ 8 (abF ab (slR ro ki sh m).1 (rcF ki sh m) (opN ki sh m) (slR ro ki sh m).2 (va_cpy as ak 0 0 8) m m))) := by
  have hr : rcF ki sh m < 256 := rcF_lt ki sh hm
  have ho : opN ki sh m < 256 := andn_lt (k := 8) hr
  have t22 : ¬ t = 22 := by omega
  have t25 : ¬ t = 25 := by omega
  have t122 : ¬ t + 1 = 22 := by omega
  have t222 : ¬ t + 2 = 22 := by omega
  have t225 : ¬ t + 2 = 25 := by omega
  have t522 : ¬ t + 5 = 22 := by omega
  rw [eR_solve]
  have a0 : ∀ c, (uH h 22 c) t = tO t (nI m) pu ye := fun c => by rw [uH_n _ _ t22]; exact h0
  have a1 : ∀ c, (uH h 22 c) (t + 1) = aI 8 ki := fun c => by rw [uH_n _ _ t122]; exact h1
  have a5 : ∀ c, (uH h 22 c) (t + 5) = aI 64 sh := fun c => by rw [uH_n _ _ t522]; exact h5
  have a25 : ∀ c, (uH h 22 c) 25 = aJ 72 ro := fun c => by rw [uH_n _ _ (by decide)]; exact h25
  simp only [qR_solve_0, w0, w1, w2i, w2r, w3, w4, w5_0, w5_1, w5_2, w5_3, w5_4, w5_5, w5_6, w5_7, w5_8, w6_0, w6_1, w7_0, w7_1, w7_2, w7_3, w7_4, w7_5, w8_0, w8_1, w9_0, w9_1, w9_2, w10_0, w10_1, w10_2, w10_3, w10_4, w10_5, w11, w12_0, w12_1, w12_2, w12_3, w12_4, w12_5, w13_0, w13_1, w13_2, w13_3, w13_4, w13_5, w14, w15i, w15r, w16, w17, w18, w19i, w19z, w19l, w20, w21, w22, w23, w24, w25, w26, w27, w28_1, w28_2, w28_3, w28_4, w28_5, w28_6, w29, w30i, w30z, w31, w32, w33, w34, w35, w36, w37_1, w37_2, w37_3, w37_4, w37_5, w37_6, isO_O, set1_0, set1_1i, set1_1r, set1_1n, set1_1l, set1_s, set2_0, set2_1i, set2_1r, set2_1n, set2_1l, set2_s, ldv_i, ldv_l, ldv_r, ldv_s, ldi_i, ldi_s, fK_0, fK_s, gfc_O, fS_0, fS_s, uH_s, uH_n, uH_u, tl_s, tl_n, b1_0, b1_1, ite_true, ite_false, if_true, if_false, List.length_nil, List.length_cons, Nat.zero_le, Nat.zero_add, Nat.reduceAdd, Nat.reduceLeDiff, Nat.reduceLT, Nat.reduceEqDiff, Nat.reduceMul, Nat.add_left_cancel_iff, not_false_eq_true, h22, h0, pfc_0, a0, T_reachedSet_n (a0 _) (a1 _) (a5 _) hm, T_fixedSet_n (a0 _) (a1 _) hm, nI_andn, R_fillRows ht (uH_s _ _ _) (a25 _) (a0 _) (a5 _) ho hm]
  rw [show andn (rcF ki sh m) (fxN ki m) = opN ki sh m from rfl]
  rw [R_fillRows ht (uH_s _ _ _) (a25 _) (a0 _) (a5 _) ho hm]
  simp only [w0, w1, w2i, w2r, w3, w4, w5_0, w5_1, w5_2, w5_3, w5_4, w5_5, w5_6, w5_7, w5_8, w6_0, w6_1, w7_0, w7_1, w7_2, w7_3, w7_4, w7_5, w8_0, w8_1, w9_0, w9_1, w9_2, w10_0, w10_1, w10_2, w10_3, w10_4, w10_5, w11, w12_0, w12_1, w12_2, w12_3, w12_4, w12_5, w13_0, w13_1, w13_2, w13_3, w13_4, w13_5, w14, w15i, w15r, w16, w17, w18, w19i, w19z, w19l, w20, w21, w22, w23, w24, w25, w26, w27, w28_1, w28_2, w28_3, w28_4, w28_5, w28_6, w29, w30i, w30z, w31, w32, w33, w34, w35, w36, w37_1, w37_2, w37_3, w37_4, w37_5, w37_6, isO_O, set1_0, set1_1i, set1_1r, set1_1n, set1_1l, set1_s, set2_0, set2_1i, set2_1r, set2_1n, set2_1l, set2_s, ldv_i, ldv_l, ldv_r, ldv_s, ldi_i, ldi_s, fK_0, fK_s, gfc_O, fS_0, fS_s, uH_s, uH_n, uH_u, tl_s, tl_n, b1_0, b1_1, ite_true, ite_false, if_true, if_false, List.length_nil, List.length_cons, Nat.zero_le, Nat.zero_add, Nat.reduceAdd, Nat.reduceLeDiff, Nat.reduceLT, Nat.reduceEqDiff, Nat.reduceMul, Nat.add_left_cancel_iff, not_false_eq_true]
  rw [R_clearRows (by rw [uH_n _ _ (by decide), uH_s]) (uH_s _ _ _) ho hm]
  simp only [w0, w1, w2i, w2r, w3, w4, w5_0, w5_1, w5_2, w5_3, w5_4, w5_5, w5_6, w5_7, w5_8, w6_0, w6_1, w7_0, w7_1, w7_2, w7_3, w7_4, w7_5, w8_0, w8_1, w9_0, w9_1, w9_2, w10_0, w10_1, w10_2, w10_3, w10_4, w10_5, w11, w12_0, w12_1, w12_2, w12_3, w12_4, w12_5, w13_0, w13_1, w13_2, w13_3, w13_4, w13_5, w14, w15i, w15r, w16, w17, w18, w19i, w19z, w19l, w20, w21, w22, w23, w24, w25, w26, w27, w28_1, w28_2, w28_3, w28_4, w28_5, w28_6, w29, w30i, w30z, w31, w32, w33, w34, w35, w36, w37_1, w37_2, w37_3, w37_4, w37_5, w37_6, isO_O, set1_0, set1_1i, set1_1r, set1_1n, set1_1l, set1_s, set2_0, set2_1i, set2_1r, set2_1n, set2_1l, set2_s, ldv_i, ldv_l, ldv_r, ldv_s, ldi_i, ldi_s, fK_0, fK_s, gfc_O, fS_0, fS_s, uH_s, uH_n, uH_u, tl_s, tl_n, b1_0, b1_1, ite_true, ite_false, if_true, if_false, List.length_nil, List.length_cons, Nat.zero_le, Nat.zero_add, Nat.reduceAdd, Nat.reduceLeDiff, Nat.reduceLT, Nat.reduceEqDiff, Nat.reduceMul, Nat.add_left_cancel_iff, not_false_eq_true, h0, h2, t22, t25, t222, t225, h24, cp8]
  rw [show coF (flO ro sh (opN ki sh m) m m) (opN ki sh m) m m = slR ro ki sh m from rfl]
  have hz := R_solve_loop (Q := Q) (t := t) (ab := ab) (ak := va_cpy as ak 0 0 8) (ro := (slR ro ki sh m).1) (be := (slR ro ki sh m).2) hr ho hm m 0
  rw [show nI 0 = 0 from rfl] at hz
  rw [hz _ (by omega) (by rw [uH_n _ _ (by decide), uH_s]) (by rw [uH_n _ _ (by decide), uH_n _ _ (by decide), uH_n _ _ (by decide), uH_n _ _ (by decide)]; exact h23) (by rw [uH_s]) (by rw [uH_n _ _ (by decide), uH_n _ _ (by decide), uH_s])]
  refine congrArg (Q none) ?_
  funext q
  simp only [uH]
  by_cases q23 : q = 23
  · simp [q23]
  · by_cases q24 : q = 24
    · simp [q24]
    · by_cases q25 : q = 25
      · simp [q25]
      · by_cases q22 : q = 22
        · simp [q22]
        · simp [q22, q23, q24, q25]
end RENTS

/-! Town: small methods and loops, as equations -/
abbrev tO (t : Nat) (n pu ye : Int32) : AC := aO 3 [.int n, .ref (t + 1), .ref (t + 2), .ref (t + 3), .ref (t + 4), .ref (t + 5), .int pu, .int ye, .ref (t + 6)]
theorem tnl (t k : Nat) : (t = t + (k + 1)) = False := by apply propext; constructor; intro h; omega; intro h; exact h.elim
theorem tnr (t k : Nat) : (t + (k + 1) = t) = False := by apply propext; constructor; intro h; omega; intro h; exact h.elim
theorem n8a (a b : Nat) : (8 : Int32) * nI a + nI b = nI (8 * a + b) := by rw [show (8 : Int32) = nI 8 from rfl, pk_mul, nI_add]
def wt (sh : Nat → Int32) (a : Nat) : Nat → Int32
  | 0 => 0
  | o + 1 => wt sh a o + sh (8 * a + o)
def pcI (sh : Nat → Int32) (a : Nat) (acc : Int32) : Nat → Int32
  | 0 => acc
  | b + 1 => if sh (8 * a + b) ≤ 0 then pcI sh a acc b else pcI sh a acc b + 1
def pcO (sh : Nat → Int32) : Nat → Int32
  | 0 => 0
  | a + 1 => pcI sh a (pcO sh a) a
/-- the first k shares of a house are taken away -/
def pdF (sh : Nat → Int32) (a : Nat) : Nat → Nat → Int32
  | 0 => sh
  | k + 1 => upd (upd (pdF sh a k) (8 * a + k) 0) (8 * k + a) 0
def clF (sh : Nat → Int32) : Nat → Nat → Int32
  | 0 => sh
  | k + 1 => upd (clF sh k) k 0
def fxd (ki : Nat → Int32) (a : Nat) : Prop := ki a = 1 ∨ ki a = 3
/-- a set of the numbers below n, as bits -/
def enc (p : Nat → Bool) : Nat → Nat
  | 0 => 0
  | k + 1 => if p k then enc p k ||| 2 ^ k else enc p k
theorem enc_lt (p : Nat → Bool) : ∀ n, enc p n < 2 ^ n
  | 0 => by simp [enc]
  | n + 1 => by
    have ih := enc_lt p n
    have h2 : 2 ^ (n + 1) = 2 ^ n * 2 := Nat.pow_succ 2 n
    unfold enc
    split
    · exact Nat.or_lt_two_pow (by omega) (by omega)
    · omega
theorem enc_bit (p : Nat → Bool) (i : Nat) : ∀ n, (enc p n).testBit i = (decide (i < n) && p i)
  | 0 => by simp [enc]
  | n + 1 => by
    have ih := enc_bit p i n
    unfold enc
    by_cases hp : p n = true
    · rw [if_pos hp, fb_bit_set, ih]
      by_cases hi : i = n
      · subst hi; simp [hp]
      · have : (i < n + 1) ↔ (i < n) := by omega
        simp [hi, this]
    · rw [if_neg hp, ih]
      by_cases hi : i = n
      · subst hi; simp [hp]
      · have : (i < n + 1) ↔ (i < n) := by omega
        simp [this]
theorem shl1 : ∀ k, k < 31 → (1 : Int32) <<< (nI k &&& 31) = nI (2 ^ k) := by decide
theorem bit1 {m k : Nat} (hm : m < 2 ^ 31) (hk : k < 31) : ((nI m >>> (nI k &&& 31)) &&& 1 = 1) = (m.testBit k = true) := by
  have e : ∀ k, k < 31 → ((nI k &&& 31).toBitVec.smod 32).toNat = k := by decide
  rw [pk_shrN hm _ k (e k hk)]
  have h1 : nI (m / 2 ^ k) &&& 1 = nI (m / 2 ^ k % 2) := pk_andN (by have := Nat.div_le_self m (2 ^ k); omega) 1 (by decide)
  rw [h1]
  apply propext
  have h2 : m.testBit k = (m / 2 ^ k % 2 == 1) := by
    rw [Nat.testBit_eq_decide_div_mod_eq]
    by_cases hh : m / 2 ^ k % 2 = 1 <;> simp [hh]
  rw [h2]
  have h3 : m / 2 ^ k % 2 < 2 := Nat.mod_lt _ (by decide)
  generalize m / 2 ^ k % 2 = y at h3
  match y, h3 with
  | 0, _ => decide
  | 1, _ => decide
section TOWN
variable {h : AH} {Q : Option Value → AH → Prop} {t : Nat} {n pu ye : Int32} {ki as ow ca sh ah : Nat → Int32}
theorem T_has {v : Int32} (h0 : h t = tO t n pu ye) : WpM 25 [.ref t, .int v] h Q = Q (some (.int (if v < 0 ∨ n ≤ v then 0 else 1))) h := by
  rw [eT_has]
  simp only [qT_has_0, jT_has_0, qT_has_16, jT_has_16, qT_has_17, jT_has_17, w0, w1, w2i, w2r, w3, w4, w5_0, w5_1, w5_2, w5_3, w5_4, w5_5, w5_6, w5_7, w5_8, w6_0, w6_1, w7_0, w7_1, w7_2, w7_3, w7_4, w7_5, w8_0, w8_1, w9_0, w9_1, w9_2, w10_0, w10_1, w10_2, w10_3, w10_4, w10_5, w11, w12_0, w12_1, w12_2, w12_3, w12_4, w12_5, w13_0, w13_1, w13_2, w13_3, w13_4, w13_5, w14, w15i, w15r, w16, w17, w18, w19i, w19z, w19l, w20, w21, w22, w23, w24, w25, w26, w27, w28_1, w28_2, w28_3, w28_4, w28_5, w28_6, w29, w30i, w30z, w31, w32, w33, w34, w35, w36, w37_1, w37_2, w37_3, w37_4, w37_5, w37_6, isO_O, set1_0, set1_1i, set1_1r, set1_1n, set1_1l, set1_s, set2_0, set2_1i, set2_1r, set2_1n, set2_1l, set2_s, ldv_i, ldv_l, ldv_r, ldv_s, ldi_i, ldi_s, fK_0, fK_s, gfc_O, fS_0, fS_s, uH_s, uH_n, uH_u, tl_s, tl_n, b1_0, b1_1, ite_true, ite_false, if_true, if_false, List.length_nil, List.length_cons, Nat.zero_le, Nat.zero_add, Nat.reduceAdd, Nat.reduceLeDiff, Nat.reduceEqDiff, Nat.reduceMul, Nat.add_left_cancel_iff, not_false_eq_true, h0]
  by_cases h1 : v < 0 <;> by_cases h2 : n ≤ v <;> simp [h1, h2]
theorem T_hasTwo {a b : Int32} (h0 : h t = tO t n pu ye) : WpM 26 [.ref t, .int a, .int b] h Q = Q (some (.int (if (a < 0 ∨ n ≤ a) ∨ (b < 0 ∨ n ≤ b) ∨ a = b then 0 else 1))) h := by
  rw [eT_hasTwo]
  simp only [qT_hasTwo_0, jT_hasTwo_0, qT_hasTwo_25, jT_hasTwo_25, qT_hasTwo_26, jT_hasTwo_26, w0, w1, w2i, w2r, w3, w4, w5_0, w5_1, w5_2, w5_3, w5_4, w5_5, w5_6, w5_7, w5_8, w6_0, w6_1, w7_0, w7_1, w7_2, w7_3, w7_4, w7_5, w8_0, w8_1, w9_0, w9_1, w9_2, w10_0, w10_1, w10_2, w10_3, w10_4, w10_5, w11, w12_0, w12_1, w12_2, w12_3, w12_4, w12_5, w13_0, w13_1, w13_2, w13_3, w13_4, w13_5, w14, w15i, w15r, w16, w17, w18, w19i, w19z, w19l, w20, w21, w22, w23, w24, w25, w26, w27, w28_1, w28_2, w28_3, w28_4, w28_5, w28_6, w29, w30i, w30z, w31, w32, w33, w34, w35, w36, w37_1, w37_2, w37_3, w37_4, w37_5, w37_6, isO_O, set1_0, set1_1i, set1_1r, set1_1n, set1_1l, set1_s, set2_0, set2_1i, set2_1r, set2_1n, set2_1l, set2_s, ldv_i, ldv_l, ldv_r, ldv_s, ldi_i, ldi_s, fK_0, fK_s, gfc_O, fS_0, fS_s, uH_s, uH_n, uH_u, tl_s, tl_n, b1_0, b1_1, ite_true, ite_false, if_true, if_false, List.length_nil, List.length_cons, Nat.zero_le, Nat.zero_add, Nat.reduceAdd, Nat.reduceLeDiff, Nat.reduceEqDiff, Nat.reduceMul, Nat.add_left_cancel_iff, not_false_eq_true, h0, T_has h0, z01]
  by_cases h1 : a < 0 ∨ n ≤ a
  · simp [h1]
  · by_cases h2 : b < 0 ∨ n ≤ b
    · simp [h1, h2]
    · by_cases h3 : a = b
      · simp [h1, h2, h3]
      · simp [h1, h2, h3]
theorem T_isFixed {a : Nat} (h0 : h t = tO t n pu ye) (h1 : h (t + 1) = aI 8 ki) (ha : a < 8) : WpM 27 [.ref t, .int (nI a)] h Q = Q (some (.int (if ¬ (ki a = 1 ∨ ki a = 3) then 0 else 1))) h := by
  rw [eT_isFixed]
  simp only [qT_isFixed_0, jT_isFixed_0, qT_isFixed_20, jT_isFixed_20, qT_isFixed_24, jT_isFixed_24, qT_isFixed_25, jT_isFixed_25, w0, w1, w2i, w2r, w3, w4, w5_0, w5_1, w5_2, w5_3, w5_4, w5_5, w5_6, w5_7, w5_8, w6_0, w6_1, w7_0, w7_1, w7_2, w7_3, w7_4, w7_5, w8_0, w8_1, w9_0, w9_1, w9_2, w10_0, w10_1, w10_2, w10_3, w10_4, w10_5, w11, w12_0, w12_1, w12_2, w12_3, w12_4, w12_5, w13_0, w13_1, w13_2, w13_3, w13_4, w13_5, w14, w15i, w15r, w16, w17, w18, w19i, w19z, w19l, w20, w21, w22, w23, w24, w25, w26, w27, w28_1, w28_2, w28_3, w28_4, w28_5, w28_6, w29, w30i, w30z, w31, w32, w33, w34, w35, w36, w37_1, w37_2, w37_3, w37_4, w37_5, w37_6, isO_O, set1_0, set1_1i, set1_1r, set1_1n, set1_1l, set1_s, set2_0, set2_1i, set2_1r, set2_1n, set2_1l, set2_s, ldv_i, ldv_l, ldv_r, ldv_s, ldi_i, ldi_s, fK_0, fK_s, gfc_O, fS_0, fS_s, uH_s, uH_n, uH_u, tl_s, tl_n, b1_0, b1_1, ite_true, ite_false, if_true, if_false, List.length_nil, List.length_cons, Nat.zero_le, Nat.zero_add, Nat.reduceAdd, Nat.reduceLeDiff, Nat.reduceEqDiff, Nat.reduceMul, Nat.add_left_cancel_iff, not_false_eq_true, h0, h1, rIc_n ha (show 8 < 2 ^ 31 by decide)]
  by_cases h1 : ki a = 1 <;> by_cases h2 : ki a = 3 <;> simp [h1, h2]
theorem T_shareOf {a b : Nat} (h0 : h t = tO t n pu ye) (h5 : h (t + 5) = aI 64 sh) (ha : a < 8) (hb : b < 8) : WpM 29 [.ref t, .int (nI a), .int (nI b)] h Q = Q (some (.int (sh (8 * a + b)))) h := by
  rw [eT_shareOf]
  simp only [qT_shareOf_0, jT_shareOf_0, w0, w1, w2i, w2r, w3, w4, w5_0, w5_1, w5_2, w5_3, w5_4, w5_5, w5_6, w5_7, w5_8, w6_0, w6_1, w7_0, w7_1, w7_2, w7_3, w7_4, w7_5, w8_0, w8_1, w9_0, w9_1, w9_2, w10_0, w10_1, w10_2, w10_3, w10_4, w10_5, w11, w12_0, w12_1, w12_2, w12_3, w12_4, w12_5, w13_0, w13_1, w13_2, w13_3, w13_4, w13_5, w14, w15i, w15r, w16, w17, w18, w19i, w19z, w19l, w20, w21, w22, w23, w24, w25, w26, w27, w28_1, w28_2, w28_3, w28_4, w28_5, w28_6, w29, w30i, w30z, w31, w32, w33, w34, w35, w36, w37_1, w37_2, w37_3, w37_4, w37_5, w37_6, isO_O, set1_0, set1_1i, set1_1r, set1_1n, set1_1l, set1_s, set2_0, set2_1i, set2_1r, set2_1n, set2_1l, set2_s, ldv_i, ldv_l, ldv_r, ldv_s, ldi_i, ldi_s, fK_0, fK_s, gfc_O, fS_0, fS_s, uH_s, uH_n, uH_u, tl_s, tl_n, b1_0, b1_1, ite_true, ite_false, if_true, if_false, List.length_nil, List.length_cons, Nat.zero_le, Nat.zero_add, Nat.reduceAdd, Nat.reduceLeDiff, Nat.reduceEqDiff, Nat.reduceMul, Nat.add_left_cancel_iff, not_false_eq_true, h0, h5, n8a, rIc_n (show 8 * a + b < 64 by omega) (show 64 < 2 ^ 31 by decide)]
theorem T_putShare {a b : Nat} {v : Int32} (h0 : h t = tO t n pu ye) (h5 : h (t + 5) = aI 64 sh) (ha : a < 8) (hb : b < 8) : WpM 30 [.ref t, .int (nI a), .int (nI b), .int v] h Q = Q none (uH h (t + 5) (aI 64 (upd (upd sh (8 * a + b) v) (8 * b + a) v))) := by
  rw [eT_putShare]
  simp only [qT_putShare_0, jT_putShare_0, w0, w1, w2i, w2r, w3, w4, w5_0, w5_1, w5_2, w5_3, w5_4, w5_5, w5_6, w5_7, w5_8, w6_0, w6_1, w7_0, w7_1, w7_2, w7_3, w7_4, w7_5, w8_0, w8_1, w9_0, w9_1, w9_2, w10_0, w10_1, w10_2, w10_3, w10_4, w10_5, w11, w12_0, w12_1, w12_2, w12_3, w12_4, w12_5, w13_0, w13_1, w13_2, w13_3, w13_4, w13_5, w14, w15i, w15r, w16, w17, w18, w19i, w19z, w19l, w20, w21, w22, w23, w24, w25, w26, w27, w28_1, w28_2, w28_3, w28_4, w28_5, w28_6, w29, w30i, w30z, w31, w32, w33, w34, w35, w36, w37_1, w37_2, w37_3, w37_4, w37_5, w37_6, isO_O, set1_0, set1_1i, set1_1r, set1_1n, set1_1l, set1_s, set2_0, set2_1i, set2_1r, set2_1n, set2_1l, set2_s, ldv_i, ldv_l, ldv_r, ldv_s, ldi_i, ldi_s, fK_0, fK_s, gfc_O, fS_0, fS_s, uH_s, uH_n, uH_u, tl_s, tl_n, b1_0, b1_1, ite_true, ite_false, if_true, if_false, List.length_nil, List.length_cons, Nat.zero_le, Nat.zero_add, Nat.reduceAdd, Nat.reduceLeDiff, Nat.reduceEqDiff, Nat.reduceMul, Nat.add_left_cancel_iff, not_false_eq_true, h0, h5, n8a, tnl, wIc_n (show 8 * a + b < 64 by omega) (show 64 < 2 ^ 31 by decide), wIc_n (show 8 * b + a < 64 by omega) (show 64 < 2 ^ 31 by decide)]
theorem T_build {m : Nat} {k v : Int32} (h0 : h t = tO t (nI m) pu ye) (h1 : h (t + 1) = aI 8 ki) (h2 : h (t + 2) = aI 8 as) (h3 : h (t + 3) = aI 8 ow) (h4 : h (t + 4) = aI 8 ca) (hm : m < 8) : WpM 28 [.ref t, .int k, .int v] h Q = Q (some (.int (nI m))) (uH (uH (uH (uH (uH h (t + 1) (aI 8 (upd ki m k))) (t + 2) (aI 8 (upd as m v))) (t + 3) (aI 8 (upd ow m 0))) (t + 4) (aI 8 (upd ca m 99))) t (tO t (nI (m + 1)) pu ye)) := by
  rw [eT_build]
  simp only [qT_build_0, jT_build_0, w0, w1, w2i, w2r, w3, w4, w5_0, w5_1, w5_2, w5_3, w5_4, w5_5, w5_6, w5_7, w5_8, w6_0, w6_1, w7_0, w7_1, w7_2, w7_3, w7_4, w7_5, w8_0, w8_1, w9_0, w9_1, w9_2, w10_0, w10_1, w10_2, w10_3, w10_4, w10_5, w11, w12_0, w12_1, w12_2, w12_3, w12_4, w12_5, w13_0, w13_1, w13_2, w13_3, w13_4, w13_5, w14, w15i, w15r, w16, w17, w18, w19i, w19z, w19l, w20, w21, w22, w23, w24, w25, w26, w27, w28_1, w28_2, w28_3, w28_4, w28_5, w28_6, w29, w30i, w30z, w31, w32, w33, w34, w35, w36, w37_1, w37_2, w37_3, w37_4, w37_5, w37_6, isO_O, set1_0, set1_1i, set1_1r, set1_1n, set1_1l, set1_s, set2_0, set2_1i, set2_1r, set2_1n, set2_1l, set2_s, ldv_i, ldv_l, ldv_r, ldv_s, ldi_i, ldi_s, fK_0, fK_s, gfc_O, fS_0, fS_s, uH_s, uH_n, uH_u, tl_s, tl_n, b1_0, b1_1, ite_true, ite_false, if_true, if_false, List.length_nil, List.length_cons, Nat.zero_le, Nat.zero_add, Nat.reduceAdd, Nat.reduceLeDiff, Nat.reduceEqDiff, Nat.reduceMul, Nat.add_left_cancel_iff, not_false_eq_true, h0, h1, h2, h3, h4, tnl, wIc_n hm (show 8 < 2 ^ 31 by decide), nI_1, pfc_O (show 0 < [Value.int (nI m), .ref (t + 1), .ref (t + 2), .ref (t + 3), .ref (t + 4), .ref (t + 5), .int pu, .int ye, .ref (t + 6)].length by simp)]
theorem T_weight_loop {m a : Nat} (h0 : h t = tO t (nI m) pu ye) (h5 : h (t + 5) = aI 64 sh) (hm : m ≤ 8) (ha : a < 8) : ∀ (d i : Nat), i + d = m → Wp none 33 qT_weight_4 [some (.ref t), some (.int (nI a)), some (.int (wt sh a i)), some (.int (nI i))] [] h Q = Q (some (.int (wt sh a m))) h := by
  intro d
  induction d with
  | zero =>
    intro i hi
    have e : i = m := by omega
    subst e
    have hc : nI i ≤ nI i := nI_le (Nat.le_refl i) (by omega)
    simp only [qT_weight_4, qT_weight_27, jT_weight_27, w0, w1, w2i, w2r, w3, w4, w5_0, w5_1, w5_2, w5_3, w5_4, w5_5, w5_6, w5_7, w5_8, w6_0, w6_1, w7_0, w7_1, w7_2, w7_3, w7_4, w7_5, w8_0, w8_1, w9_0, w9_1, w9_2, w10_0, w10_1, w10_2, w10_3, w10_4, w10_5, w11, w12_0, w12_1, w12_2, w12_3, w12_4, w12_5, w13_0, w13_1, w13_2, w13_3, w13_4, w13_5, w14, w15i, w15r, w16, w17, w18, w19i, w19z, w19l, w20, w21, w22, w23, w24, w25, w26, w27, w28_1, w28_2, w28_3, w28_4, w28_5, w28_6, w29, w30i, w30z, w31, w32, w33, w34, w35, w36, w37_1, w37_2, w37_3, w37_4, w37_5, w37_6, isO_O, set1_0, set1_1i, set1_1r, set1_1n, set1_1l, set1_s, set2_0, set2_1i, set2_1r, set2_1n, set2_1l, set2_s, ldv_i, ldv_l, ldv_r, ldv_s, ldi_i, ldi_s, fK_0, fK_s, gfc_O, fS_0, fS_s, uH_s, uH_n, uH_u, tl_s, tl_n, b1_0, b1_1, ite_true, ite_false, if_true, if_false, List.length_nil, List.length_cons, Nat.zero_le, Nat.zero_add, Nat.reduceAdd, Nat.reduceLeDiff, Nat.reduceEqDiff, Nat.reduceMul, Nat.add_left_cancel_iff, not_false_eq_true, h0, hc]
  | succ d ih =>
    intro i hi
    have hc : ¬ nI m ≤ nI i := nI_ge (by omega) (by omega)
    rw [qT_weight_4]
    simp only [w0, w1, w2i, w2r, w3, w4, w5_0, w5_1, w5_2, w5_3, w5_4, w5_5, w5_6, w5_7, w5_8, w6_0, w6_1, w7_0, w7_1, w7_2, w7_3, w7_4, w7_5, w8_0, w8_1, w9_0, w9_1, w9_2, w10_0, w10_1, w10_2, w10_3, w10_4, w10_5, w11, w12_0, w12_1, w12_2, w12_3, w12_4, w12_5, w13_0, w13_1, w13_2, w13_3, w13_4, w13_5, w14, w15i, w15r, w16, w17, w18, w19i, w19z, w19l, w20, w21, w22, w23, w24, w25, w26, w27, w28_1, w28_2, w28_3, w28_4, w28_5, w28_6, w29, w30i, w30z, w31, w32, w33, w34, w35, w36, w37_1, w37_2, w37_3, w37_4, w37_5, w37_6, isO_O, set1_0, set1_1i, set1_1r, set1_1n, set1_1l, set1_s, set2_0, set2_1i, set2_1r, set2_1n, set2_1l, set2_s, ldv_i, ldv_l, ldv_r, ldv_s, ldi_i, ldi_s, fK_0, fK_s, gfc_O, fS_0, fS_s, uH_s, uH_n, uH_u, tl_s, tl_n, b1_0, b1_1, ite_true, ite_false, if_true, if_false, List.length_nil, List.length_cons, Nat.zero_le, Nat.zero_add, Nat.reduceAdd, Nat.reduceLeDiff, Nat.reduceEqDiff, Nat.reduceMul, Nat.add_left_cancel_iff, not_false_eq_true, h0, hc, jT_weight_4, T_shareOf h0 h5 ha (show i < 8 by omega), nI_1]
    exact ih (i + 1) (by omega)
theorem T_weight {m a : Nat} (h0 : h t = tO t (nI m) pu ye) (h5 : h (t + 5) = aI 64 sh) (hm : m ≤ 8) (ha : a < 8) : WpM 33 [.ref t, .int (nI a)] h Q = Q (some (.int (wt sh a m))) h := by
  rw [eT_weight]
  simp only [qT_weight_0, w0, w1, w2i, w2r, w3, w4, w5_0, w5_1, w5_2, w5_3, w5_4, w5_5, w5_6, w5_7, w5_8, w6_0, w6_1, w7_0, w7_1, w7_2, w7_3, w7_4, w7_5, w8_0, w8_1, w9_0, w9_1, w9_2, w10_0, w10_1, w10_2, w10_3, w10_4, w10_5, w11, w12_0, w12_1, w12_2, w12_3, w12_4, w12_5, w13_0, w13_1, w13_2, w13_3, w13_4, w13_5, w14, w15i, w15r, w16, w17, w18, w19i, w19z, w19l, w20, w21, w22, w23, w24, w25, w26, w27, w28_1, w28_2, w28_3, w28_4, w28_5, w28_6, w29, w30i, w30z, w31, w32, w33, w34, w35, w36, w37_1, w37_2, w37_3, w37_4, w37_5, w37_6, isO_O, set1_0, set1_1i, set1_1r, set1_1n, set1_1l, set1_s, set2_0, set2_1i, set2_1r, set2_1n, set2_1l, set2_s, ldv_i, ldv_l, ldv_r, ldv_s, ldi_i, ldi_s, fK_0, fK_s, gfc_O, fS_0, fS_s, uH_s, uH_n, uH_u, tl_s, tl_n, b1_0, b1_1, ite_true, ite_false, if_true, if_false, List.length_nil, List.length_cons, Nat.zero_le, Nat.zero_add, Nat.reduceAdd, Nat.reduceLeDiff, Nat.reduceEqDiff, Nat.reduceMul, Nat.add_left_cancel_iff, not_false_eq_true]
  exact T_weight_loop h0 h5 hm ha m 0 (by omega)
theorem T_pairs_in {m a : Nat} {acc : Int32} (h0 : h t = tO t (nI m) pu ye) (h5 : h (t + 5) = aI 64 sh) (hm : m ≤ 8) (ha : a < 8) : ∀ (d b : Nat), b + d = a → Wp none 34 qT_pairs_14 [some (.ref t), some (.int (pcI sh a acc b)), some (.int (nI a)), some (.int (nI b))] [] h Q = Wp none 34 qT_pairs_37 [some (.ref t), some (.int (pcI sh a acc a)), some (.int (nI a)), some (.int (nI a))] [] h Q := by
  intro d
  induction d with
  | zero =>
    intro b hb
    have e : b = a := by omega
    subst e
    have hc : nI b ≤ nI b := nI_le (Nat.le_refl b) (by omega)
    rw [qT_pairs_14]
    simp only [jT_pairs_37, w0, w1, w2i, w2r, w3, w4, w5_0, w5_1, w5_2, w5_3, w5_4, w5_5, w5_6, w5_7, w5_8, w6_0, w6_1, w7_0, w7_1, w7_2, w7_3, w7_4, w7_5, w8_0, w8_1, w9_0, w9_1, w9_2, w10_0, w10_1, w10_2, w10_3, w10_4, w10_5, w11, w12_0, w12_1, w12_2, w12_3, w12_4, w12_5, w13_0, w13_1, w13_2, w13_3, w13_4, w13_5, w14, w15i, w15r, w16, w17, w18, w19i, w19z, w19l, w20, w21, w22, w23, w24, w25, w26, w27, w28_1, w28_2, w28_3, w28_4, w28_5, w28_6, w29, w30i, w30z, w31, w32, w33, w34, w35, w36, w37_1, w37_2, w37_3, w37_4, w37_5, w37_6, isO_O, set1_0, set1_1i, set1_1r, set1_1n, set1_1l, set1_s, set2_0, set2_1i, set2_1r, set2_1n, set2_1l, set2_s, ldv_i, ldv_l, ldv_r, ldv_s, ldi_i, ldi_s, fK_0, fK_s, gfc_O, fS_0, fS_s, uH_s, uH_n, uH_u, tl_s, tl_n, b1_0, b1_1, ite_true, ite_false, if_true, if_false, List.length_nil, List.length_cons, Nat.zero_le, Nat.zero_add, Nat.reduceAdd, Nat.reduceLeDiff, Nat.reduceEqDiff, Nat.reduceMul, Nat.add_left_cancel_iff, not_false_eq_true, h0, hc]
  | succ d ih =>
    intro b hb
    have hc : ¬ nI a ≤ nI b := nI_ge (by omega) (by omega)
    rw [qT_pairs_14]
    simp only [qT_pairs_31, jT_pairs_31, jT_pairs_14, w0, w1, w2i, w2r, w3, w4, w5_0, w5_1, w5_2, w5_3, w5_4, w5_5, w5_6, w5_7, w5_8, w6_0, w6_1, w7_0, w7_1, w7_2, w7_3, w7_4, w7_5, w8_0, w8_1, w9_0, w9_1, w9_2, w10_0, w10_1, w10_2, w10_3, w10_4, w10_5, w11, w12_0, w12_1, w12_2, w12_3, w12_4, w12_5, w13_0, w13_1, w13_2, w13_3, w13_4, w13_5, w14, w15i, w15r, w16, w17, w18, w19i, w19z, w19l, w20, w21, w22, w23, w24, w25, w26, w27, w28_1, w28_2, w28_3, w28_4, w28_5, w28_6, w29, w30i, w30z, w31, w32, w33, w34, w35, w36, w37_1, w37_2, w37_3, w37_4, w37_5, w37_6, isO_O, set1_0, set1_1i, set1_1r, set1_1n, set1_1l, set1_s, set2_0, set2_1i, set2_1r, set2_1n, set2_1l, set2_s, ldv_i, ldv_l, ldv_r, ldv_s, ldi_i, ldi_s, fK_0, fK_s, gfc_O, fS_0, fS_s, uH_s, uH_n, uH_u, tl_s, tl_n, b1_0, b1_1, ite_true, ite_false, if_true, if_false, List.length_nil, List.length_cons, Nat.zero_le, Nat.zero_add, Nat.reduceAdd, Nat.reduceLeDiff, Nat.reduceEqDiff, Nat.reduceMul, Nat.add_left_cancel_iff, not_false_eq_true, h0, hc, T_shareOf h0 h5 ha (show b < 8 by omega), nI_1]
    have ih := ih (b + 1) (by omega)
    by_cases hs : sh (8 * a + b) ≤ 0
    · rw [if_pos hs]
      have e : pcI sh a acc (b + 1) = pcI sh a acc b := by rw [pcI, if_pos hs]
      rw [e] at ih
      exact ih
    · rw [if_neg hs]
      have e : pcI sh a acc (b + 1) = pcI sh a acc b + 1 := by rw [pcI, if_neg hs]
      rw [e] at ih
      exact ih
theorem T_pairs_out {m : Nat} (h0 : h t = tO t (nI m) pu ye) (h5 : h (t + 5) = aI 64 sh) (hm : m ≤ 8) : ∀ (d a : Nat) (x : Option Value), a + d = m → Wp none 34 qT_pairs_4 [some (.ref t), some (.int (pcO sh a)), some (.int (nI a)), x] [] h Q = Q (some (.int (pcO sh m))) h := by
  intro d
  induction d with
  | zero =>
    intro a x ha
    have e : a = m := by omega
    subst e
    have hc : nI a ≤ nI a := nI_le (Nat.le_refl a) (by omega)
    simp only [qT_pairs_4, qT_pairs_43, jT_pairs_43, w0, w1, w2i, w2r, w3, w4, w5_0, w5_1, w5_2, w5_3, w5_4, w5_5, w5_6, w5_7, w5_8, w6_0, w6_1, w7_0, w7_1, w7_2, w7_3, w7_4, w7_5, w8_0, w8_1, w9_0, w9_1, w9_2, w10_0, w10_1, w10_2, w10_3, w10_4, w10_5, w11, w12_0, w12_1, w12_2, w12_3, w12_4, w12_5, w13_0, w13_1, w13_2, w13_3, w13_4, w13_5, w14, w15i, w15r, w16, w17, w18, w19i, w19z, w19l, w20, w21, w22, w23, w24, w25, w26, w27, w28_1, w28_2, w28_3, w28_4, w28_5, w28_6, w29, w30i, w30z, w31, w32, w33, w34, w35, w36, w37_1, w37_2, w37_3, w37_4, w37_5, w37_6, isO_O, set1_0, set1_1i, set1_1r, set1_1n, set1_1l, set1_s, set2_0, set2_1i, set2_1r, set2_1n, set2_1l, set2_s, ldv_i, ldv_l, ldv_r, ldv_s, ldi_i, ldi_s, fK_0, fK_s, gfc_O, fS_0, fS_s, uH_s, uH_n, uH_u, tl_s, tl_n, b1_0, b1_1, ite_true, ite_false, if_true, if_false, List.length_nil, List.length_cons, Nat.zero_le, Nat.zero_add, Nat.reduceAdd, Nat.reduceLeDiff, Nat.reduceEqDiff, Nat.reduceMul, Nat.add_left_cancel_iff, not_false_eq_true, h0, hc]
  | succ d ih =>
    intro a x ha
    have hc : ¬ nI m ≤ nI a := nI_ge (by omega) (by omega)
    rw [qT_pairs_4]
    simp only [w0, w1, w2i, w2r, w3, w4, w5_0, w5_1, w5_2, w5_3, w5_4, w5_5, w5_6, w5_7, w5_8, w6_0, w6_1, w7_0, w7_1, w7_2, w7_3, w7_4, w7_5, w8_0, w8_1, w9_0, w9_1, w9_2, w10_0, w10_1, w10_2, w10_3, w10_4, w10_5, w11, w12_0, w12_1, w12_2, w12_3, w12_4, w12_5, w13_0, w13_1, w13_2, w13_3, w13_4, w13_5, w14, w15i, w15r, w16, w17, w18, w19i, w19z, w19l, w20, w21, w22, w23, w24, w25, w26, w27, w28_1, w28_2, w28_3, w28_4, w28_5, w28_6, w29, w30i, w30z, w31, w32, w33, w34, w35, w36, w37_1, w37_2, w37_3, w37_4, w37_5, w37_6, isO_O, set1_0, set1_1i, set1_1r, set1_1n, set1_1l, set1_s, set2_0, set2_1i, set2_1r, set2_1n, set2_1l, set2_s, ldv_i, ldv_l, ldv_r, ldv_s, ldi_i, ldi_s, fK_0, fK_s, gfc_O, fS_0, fS_s, uH_s, uH_n, uH_u, tl_s, tl_n, b1_0, b1_1, ite_true, ite_false, if_true, if_false, List.length_nil, List.length_cons, Nat.zero_le, Nat.zero_add, Nat.reduceAdd, Nat.reduceLeDiff, Nat.reduceEqDiff, Nat.reduceMul, Nat.add_left_cancel_iff, not_false_eq_true, h0, hc]
    have e := T_pairs_in (Q := Q) (acc := pcO sh a) h0 h5 hm (show a < 8 by omega) a 0 (by omega)
    rw [show nI 0 = 0 from rfl] at e
    rw [show pcI sh a (pcO sh a) 0 = pcO sh a from rfl] at e
    rw [e]
    simp only [qT_pairs_37, jT_pairs_4, w0, w1, w2i, w2r, w3, w4, w5_0, w5_1, w5_2, w5_3, w5_4, w5_5, w5_6, w5_7, w5_8, w6_0, w6_1, w7_0, w7_1, w7_2, w7_3, w7_4, w7_5, w8_0, w8_1, w9_0, w9_1, w9_2, w10_0, w10_1, w10_2, w10_3, w10_4, w10_5, w11, w12_0, w12_1, w12_2, w12_3, w12_4, w12_5, w13_0, w13_1, w13_2, w13_3, w13_4, w13_5, w14, w15i, w15r, w16, w17, w18, w19i, w19z, w19l, w20, w21, w22, w23, w24, w25, w26, w27, w28_1, w28_2, w28_3, w28_4, w28_5, w28_6, w29, w30i, w30z, w31, w32, w33, w34, w35, w36, w37_1, w37_2, w37_3, w37_4, w37_5, w37_6, isO_O, set1_0, set1_1i, set1_1r, set1_1n, set1_1l, set1_s, set2_0, set2_1i, set2_1r, set2_1n, set2_1l, set2_s, ldv_i, ldv_l, ldv_r, ldv_s, ldi_i, ldi_s, fK_0, fK_s, gfc_O, fS_0, fS_s, uH_s, uH_n, uH_u, tl_s, tl_n, b1_0, b1_1, ite_true, ite_false, if_true, if_false, List.length_nil, List.length_cons, Nat.zero_le, Nat.zero_add, Nat.reduceAdd, Nat.reduceLeDiff, Nat.reduceEqDiff, Nat.reduceMul, Nat.add_left_cancel_iff, not_false_eq_true, nI_1]
    exact ih (a + 1) _ (by omega)
theorem T_pairs {m : Nat} (h0 : h t = tO t (nI m) pu ye) (h5 : h (t + 5) = aI 64 sh) (hm : m ≤ 8) : WpM 34 [.ref t] h Q = Q (some (.int (pcO sh m))) h := by
  rw [eT_pairs]
  simp only [qT_pairs_0, w0, w1, w2i, w2r, w3, w4, w5_0, w5_1, w5_2, w5_3, w5_4, w5_5, w5_6, w5_7, w5_8, w6_0, w6_1, w7_0, w7_1, w7_2, w7_3, w7_4, w7_5, w8_0, w8_1, w9_0, w9_1, w9_2, w10_0, w10_1, w10_2, w10_3, w10_4, w10_5, w11, w12_0, w12_1, w12_2, w12_3, w12_4, w12_5, w13_0, w13_1, w13_2, w13_3, w13_4, w13_5, w14, w15i, w15r, w16, w17, w18, w19i, w19z, w19l, w20, w21, w22, w23, w24, w25, w26, w27, w28_1, w28_2, w28_3, w28_4, w28_5, w28_6, w29, w30i, w30z, w31, w32, w33, w34, w35, w36, w37_1, w37_2, w37_3, w37_4, w37_5, w37_6, isO_O, set1_0, set1_1i, set1_1r, set1_1n, set1_1l, set1_s, set2_0, set2_1i, set2_1r, set2_1n, set2_1l, set2_s, ldv_i, ldv_l, ldv_r, ldv_s, ldi_i, ldi_s, fK_0, fK_s, gfc_O, fS_0, fS_s, uH_s, uH_n, uH_u, tl_s, tl_n, b1_0, b1_1, ite_true, ite_false, if_true, if_false, List.length_nil, List.length_cons, Nat.zero_le, Nat.zero_add, Nat.reduceAdd, Nat.reduceLeDiff, Nat.reduceEqDiff, Nat.reduceMul, Nat.add_left_cancel_iff, not_false_eq_true]
  exact T_pairs_out h0 h5 hm m 0 _ (by omega)
theorem T_pullDown_loop {a : Nat} (ha : a < 8) : ∀ (d i : Nat) (h : AH), i + d = 8 → h t = tO t n pu ye → h (t + 5) = aI 64 (pdF sh a i) → Wp none 31 qT_pullDown_2 [some (.ref t), some (.int (nI a)), some (.int (nI i))] [] h Q = Q none (uH h (t + 5) (aI 64 (pdF sh a 8))) := by
  intro d
  induction d with
  | zero =>
    intro i h hi h0 h5
    have e : i = 8 := by omega
    subst e
    have hc : (8 : Int32) ≤ nI 8 := by decide
    simp only [qT_pullDown_2, qT_pullDown_21, jT_pullDown_21, w0, w1, w2i, w2r, w3, w4, w5_0, w5_1, w5_2, w5_3, w5_4, w5_5, w5_6, w5_7, w5_8, w6_0, w6_1, w7_0, w7_1, w7_2, w7_3, w7_4, w7_5, w8_0, w8_1, w9_0, w9_1, w9_2, w10_0, w10_1, w10_2, w10_3, w10_4, w10_5, w11, w12_0, w12_1, w12_2, w12_3, w12_4, w12_5, w13_0, w13_1, w13_2, w13_3, w13_4, w13_5, w14, w15i, w15r, w16, w17, w18, w19i, w19z, w19l, w20, w21, w22, w23, w24, w25, w26, w27, w28_1, w28_2, w28_3, w28_4, w28_5, w28_6, w29, w30i, w30z, w31, w32, w33, w34, w35, w36, w37_1, w37_2, w37_3, w37_4, w37_5, w37_6, isO_O, set1_0, set1_1i, set1_1r, set1_1n, set1_1l, set1_s, set2_0, set2_1i, set2_1r, set2_1n, set2_1l, set2_s, ldv_i, ldv_l, ldv_r, ldv_s, ldi_i, ldi_s, fK_0, fK_s, gfc_O, fS_0, fS_s, uH_s, uH_n, uH_u, tl_s, tl_n, b1_0, b1_1, ite_true, ite_false, if_true, if_false, List.length_nil, List.length_cons, Nat.zero_le, Nat.zero_add, Nat.reduceAdd, Nat.reduceLeDiff, Nat.reduceEqDiff, Nat.reduceMul, Nat.add_left_cancel_iff, not_false_eq_true, hc]
    rw [uH_id h h5]
  | succ d ih =>
    intro i h hi h0 h5
    have hc : ¬ (8 : Int32) ≤ nI i := nI_ge (b := 8) (by omega) (by decide)
    rw [qT_pullDown_2]
    simp only [w0, w1, w2i, w2r, w3, w4, w5_0, w5_1, w5_2, w5_3, w5_4, w5_5, w5_6, w5_7, w5_8, w6_0, w6_1, w7_0, w7_1, w7_2, w7_3, w7_4, w7_5, w8_0, w8_1, w9_0, w9_1, w9_2, w10_0, w10_1, w10_2, w10_3, w10_4, w10_5, w11, w12_0, w12_1, w12_2, w12_3, w12_4, w12_5, w13_0, w13_1, w13_2, w13_3, w13_4, w13_5, w14, w15i, w15r, w16, w17, w18, w19i, w19z, w19l, w20, w21, w22, w23, w24, w25, w26, w27, w28_1, w28_2, w28_3, w28_4, w28_5, w28_6, w29, w30i, w30z, w31, w32, w33, w34, w35, w36, w37_1, w37_2, w37_3, w37_4, w37_5, w37_6, isO_O, set1_0, set1_1i, set1_1r, set1_1n, set1_1l, set1_s, set2_0, set2_1i, set2_1r, set2_1n, set2_1l, set2_s, ldv_i, ldv_l, ldv_r, ldv_s, ldi_i, ldi_s, fK_0, fK_s, gfc_O, fS_0, fS_s, uH_s, uH_n, uH_u, tl_s, tl_n, b1_0, b1_1, ite_true, ite_false, if_true, if_false, List.length_nil, List.length_cons, Nat.zero_le, Nat.zero_add, Nat.reduceAdd, Nat.reduceLeDiff, Nat.reduceEqDiff, Nat.reduceMul, Nat.add_left_cancel_iff, not_false_eq_true, h0, hc, jT_pullDown_2, T_putShare h0 h5 ha (show i < 8 by omega), nI_1]
    rw [ih (i + 1) _ (by omega) (by rw [uH_n _ _ (by omega)]; exact h0) (by rw [uH_s]; rfl), uH_u]
theorem T_pullDown {a : Nat} (h0 : h t = tO t n pu ye) (h5 : h (t + 5) = aI 64 sh) (ha : a < 8) : WpM 31 [.ref t, .int (nI a)] h Q = Q none (uH h (t + 5) (aI 64 (pdF sh a 8))) := by
  rw [eT_pullDown]
  simp only [qT_pullDown_0, w0, w1, w2i, w2r, w3, w4, w5_0, w5_1, w5_2, w5_3, w5_4, w5_5, w5_6, w5_7, w5_8, w6_0, w6_1, w7_0, w7_1, w7_2, w7_3, w7_4, w7_5, w8_0, w8_1, w9_0, w9_1, w9_2, w10_0, w10_1, w10_2, w10_3, w10_4, w10_5, w11, w12_0, w12_1, w12_2, w12_3, w12_4, w12_5, w13_0, w13_1, w13_2, w13_3, w13_4, w13_5, w14, w15i, w15r, w16, w17, w18, w19i, w19z, w19l, w20, w21, w22, w23, w24, w25, w26, w27, w28_1, w28_2, w28_3, w28_4, w28_5, w28_6, w29, w30i, w30z, w31, w32, w33, w34, w35, w36, w37_1, w37_2, w37_3, w37_4, w37_5, w37_6, isO_O, set1_0, set1_1i, set1_1r, set1_1n, set1_1l, set1_s, set2_0, set2_1i, set2_1r, set2_1n, set2_1l, set2_s, ldv_i, ldv_l, ldv_r, ldv_s, ldi_i, ldi_s, fK_0, fK_s, gfc_O, fS_0, fS_s, uH_s, uH_n, uH_u, tl_s, tl_n, b1_0, b1_1, ite_true, ite_false, if_true, if_false, List.length_nil, List.length_cons, Nat.zero_le, Nat.zero_add, Nat.reduceAdd, Nat.reduceLeDiff, Nat.reduceEqDiff, Nat.reduceMul, Nat.add_left_cancel_iff, not_false_eq_true]
  exact T_pullDown_loop ha 8 0 h (by omega) h0 h5
theorem T_clear_loop : ∀ (d i : Nat) (h : AH), i + d = 64 → h t = tO t n pu ye → h (t + 5) = aI 64 (clF sh i) → Wp none 32 qT_clear_7 [some (.ref t), some (.int (nI i))] [] h Q = Q none (uH h (t + 5) (aI 64 (clF sh 64))) := by
  intro d
  induction d with
  | zero =>
    intro i h hi h0 h5
    have e : i = 64 := by omega
    subst e
    have hc : (64 : Int32) ≤ nI 64 := by decide
    simp only [qT_clear_7, qT_clear_26, jT_clear_26, w0, w1, w2i, w2r, w3, w4, w5_0, w5_1, w5_2, w5_3, w5_4, w5_5, w5_6, w5_7, w5_8, w6_0, w6_1, w7_0, w7_1, w7_2, w7_3, w7_4, w7_5, w8_0, w8_1, w9_0, w9_1, w9_2, w10_0, w10_1, w10_2, w10_3, w10_4, w10_5, w11, w12_0, w12_1, w12_2, w12_3, w12_4, w12_5, w13_0, w13_1, w13_2, w13_3, w13_4, w13_5, w14, w15i, w15r, w16, w17, w18, w19i, w19z, w19l, w20, w21, w22, w23, w24, w25, w26, w27, w28_1, w28_2, w28_3, w28_4, w28_5, w28_6, w29, w30i, w30z, w31, w32, w33, w34, w35, w36, w37_1, w37_2, w37_3, w37_4, w37_5, w37_6, isO_O, set1_0, set1_1i, set1_1r, set1_1n, set1_1l, set1_s, set2_0, set2_1i, set2_1r, set2_1n, set2_1l, set2_s, ldv_i, ldv_l, ldv_r, ldv_s, ldi_i, ldi_s, fK_0, fK_s, gfc_O, fS_0, fS_s, uH_s, uH_n, uH_u, tl_s, tl_n, b1_0, b1_1, ite_true, ite_false, if_true, if_false, List.length_nil, List.length_cons, Nat.zero_le, Nat.zero_add, Nat.reduceAdd, Nat.reduceLeDiff, Nat.reduceEqDiff, Nat.reduceMul, Nat.add_left_cancel_iff, not_false_eq_true, hc]
    rw [uH_id h h5]
  | succ d ih =>
    intro i h hi h0 h5
    have hc : ¬ (64 : Int32) ≤ nI i := nI_ge (b := 64) (by omega) (by decide)
    rw [qT_clear_7]
    simp only [w0, w1, w2i, w2r, w3, w4, w5_0, w5_1, w5_2, w5_3, w5_4, w5_5, w5_6, w5_7, w5_8, w6_0, w6_1, w7_0, w7_1, w7_2, w7_3, w7_4, w7_5, w8_0, w8_1, w9_0, w9_1, w9_2, w10_0, w10_1, w10_2, w10_3, w10_4, w10_5, w11, w12_0, w12_1, w12_2, w12_3, w12_4, w12_5, w13_0, w13_1, w13_2, w13_3, w13_4, w13_5, w14, w15i, w15r, w16, w17, w18, w19i, w19z, w19l, w20, w21, w22, w23, w24, w25, w26, w27, w28_1, w28_2, w28_3, w28_4, w28_5, w28_6, w29, w30i, w30z, w31, w32, w33, w34, w35, w36, w37_1, w37_2, w37_3, w37_4, w37_5, w37_6, isO_O, set1_0, set1_1i, set1_1r, set1_1n, set1_1l, set1_s, set2_0, set2_1i, set2_1r, set2_1n, set2_1l, set2_s, ldv_i, ldv_l, ldv_r, ldv_s, ldi_i, ldi_s, fK_0, fK_s, gfc_O, fS_0, fS_s, uH_s, uH_n, uH_u, tl_s, tl_n, b1_0, b1_1, ite_true, ite_false, if_true, if_false, List.length_nil, List.length_cons, Nat.zero_le, Nat.zero_add, Nat.reduceAdd, Nat.reduceLeDiff, Nat.reduceEqDiff, Nat.reduceMul, Nat.add_left_cancel_iff, not_false_eq_true, h0, h5, hc, jT_clear_7, nI_1, wIc_n (show i < 64 by omega) (show 64 < 2 ^ 31 by decide)]
    rw [ih (i + 1) _ (by omega) (by rw [uH_n _ _ (by omega)]; exact h0) (by rw [uH_s]; rfl), uH_u]
theorem T_clear (h0 : h t = tO t n pu ye) (h5 : h (t + 5) = aI 64 sh) : WpM 32 [.ref t] h Q = Q none (uH (uH h t (tO t 0 pu ye)) (t + 5) (aI 64 (clF sh 64))) := by
  rw [eT_clear]
  simp only [qT_clear_0, w0, w1, w2i, w2r, w3, w4, w5_0, w5_1, w5_2, w5_3, w5_4, w5_5, w5_6, w5_7, w5_8, w6_0, w6_1, w7_0, w7_1, w7_2, w7_3, w7_4, w7_5, w8_0, w8_1, w9_0, w9_1, w9_2, w10_0, w10_1, w10_2, w10_3, w10_4, w10_5, w11, w12_0, w12_1, w12_2, w12_3, w12_4, w12_5, w13_0, w13_1, w13_2, w13_3, w13_4, w13_5, w14, w15i, w15r, w16, w17, w18, w19i, w19z, w19l, w20, w21, w22, w23, w24, w25, w26, w27, w28_1, w28_2, w28_3, w28_4, w28_5, w28_6, w29, w30i, w30z, w31, w32, w33, w34, w35, w36, w37_1, w37_2, w37_3, w37_4, w37_5, w37_6, isO_O, set1_0, set1_1i, set1_1r, set1_1n, set1_1l, set1_s, set2_0, set2_1i, set2_1r, set2_1n, set2_1l, set2_s, ldv_i, ldv_l, ldv_r, ldv_s, ldi_i, ldi_s, fK_0, fK_s, gfc_O, fS_0, fS_s, uH_s, uH_n, uH_u, tl_s, tl_n, b1_0, b1_1, ite_true, ite_false, if_true, if_false, List.length_nil, List.length_cons, Nat.zero_le, Nat.zero_add, Nat.reduceAdd, Nat.reduceLeDiff, Nat.reduceEqDiff, Nat.reduceMul, Nat.add_left_cancel_iff, not_false_eq_true, h0, pfc_O (show 0 < [Value.int n, .ref (t + 1), .ref (t + 2), .ref (t + 3), .ref (t + 4), .ref (t + 5), .int pu, .int ye, .ref (t + 6)].length by simp)]
  exact T_clear_loop 64 0 _ (by omega) (by rw [uH_s]) (by rw [uH_n _ _ (by omega)]; exact h5)
theorem T_fixedSet_loop {m : Nat} (p : Nat → Bool) (hp : ∀ a, a < 8 → (p a = true ↔ (ki a = 1 ∨ ki a = 3))) (h0 : h t = tO t (nI m) pu ye) (h1 : h (t + 1) = aI 8 ki) (hm : m ≤ 8) : ∀ (d i : Nat), i + d = m → Wp none 35 qT_fixedSet_4 [some (.ref t), some (.int (nI (enc p i))), some (.int (nI i))] [] h Q = Q (some (.int (nI (enc p m)))) h := by
  intro d
  induction d with
  | zero =>
    intro i hi
    have e : i = m := by omega
    subst e
    have hc : nI i ≤ nI i := nI_le (Nat.le_refl i) (by omega)
    simp only [qT_fixedSet_4, qT_fixedSet_32, jT_fixedSet_32, w0, w1, w2i, w2r, w3, w4, w5_0, w5_1, w5_2, w5_3, w5_4, w5_5, w5_6, w5_7, w5_8, w6_0, w6_1, w7_0, w7_1, w7_2, w7_3, w7_4, w7_5, w8_0, w8_1, w9_0, w9_1, w9_2, w10_0, w10_1, w10_2, w10_3, w10_4, w10_5, w11, w12_0, w12_1, w12_2, w12_3, w12_4, w12_5, w13_0, w13_1, w13_2, w13_3, w13_4, w13_5, w14, w15i, w15r, w16, w17, w18, w19i, w19z, w19l, w20, w21, w22, w23, w24, w25, w26, w27, w28_1, w28_2, w28_3, w28_4, w28_5, w28_6, w29, w30i, w30z, w31, w32, w33, w34, w35, w36, w37_1, w37_2, w37_3, w37_4, w37_5, w37_6, isO_O, set1_0, set1_1i, set1_1r, set1_1n, set1_1l, set1_s, set2_0, set2_1i, set2_1r, set2_1n, set2_1l, set2_s, ldv_i, ldv_l, ldv_r, ldv_s, ldi_i, ldi_s, fK_0, fK_s, gfc_O, fS_0, fS_s, uH_s, uH_n, uH_u, tl_s, tl_n, b1_0, b1_1, ite_true, ite_false, if_true, if_false, List.length_nil, List.length_cons, Nat.zero_le, Nat.zero_add, Nat.reduceAdd, Nat.reduceLeDiff, Nat.reduceEqDiff, Nat.reduceMul, Nat.add_left_cancel_iff, not_false_eq_true, h0, hc]
  | succ d ih =>
    intro i hi
    have hc : ¬ nI m ≤ nI i := nI_ge (by omega) (by omega)
    rw [qT_fixedSet_4]
    simp only [qT_fixedSet_26, jT_fixedSet_26, w0, w1, w2i, w2r, w3, w4, w5_0, w5_1, w5_2, w5_3, w5_4, w5_5, w5_6, w5_7, w5_8, w6_0, w6_1, w7_0, w7_1, w7_2, w7_3, w7_4, w7_5, w8_0, w8_1, w9_0, w9_1, w9_2, w10_0, w10_1, w10_2, w10_3, w10_4, w10_5, w11, w12_0, w12_1, w12_2, w12_3, w12_4, w12_5, w13_0, w13_1, w13_2, w13_3, w13_4, w13_5, w14, w15i, w15r, w16, w17, w18, w19i, w19z, w19l, w20, w21, w22, w23, w24, w25, w26, w27, w28_1, w28_2, w28_3, w28_4, w28_5, w28_6, w29, w30i, w30z, w31, w32, w33, w34, w35, w36, w37_1, w37_2, w37_3, w37_4, w37_5, w37_6, isO_O, set1_0, set1_1i, set1_1r, set1_1n, set1_1l, set1_s, set2_0, set2_1i, set2_1r, set2_1n, set2_1l, set2_s, ldv_i, ldv_l, ldv_r, ldv_s, ldi_i, ldi_s, fK_0, fK_s, gfc_O, fS_0, fS_s, uH_s, uH_n, uH_u, tl_s, tl_n, b1_0, b1_1, ite_true, ite_false, if_true, if_false, List.length_nil, List.length_cons, Nat.zero_le, Nat.zero_add, Nat.reduceAdd, Nat.reduceLeDiff, Nat.reduceEqDiff, Nat.reduceMul, Nat.add_left_cancel_iff, not_false_eq_true, h0, hc, jT_fixedSet_4, T_isFixed h0 h1 (show i < 8 by omega), z01, nI_1, shl1 i (by omega), fa_or]
    have ih := ih (i + 1) (by omega)
    by_cases hs : ki i = 1 ∨ ki i = 3
    · rw [if_neg (fun z => z hs)]
      have e : enc p (i + 1) = enc p i ||| 2 ^ i := by rw [enc, if_pos ((hp i (by omega)).mpr hs)]
      rw [e] at ih
      exact ih
    · rw [if_pos hs]
      have e : enc p (i + 1) = enc p i := by rw [enc, if_neg (fun z => hs ((hp i (by omega)).mp z))]
      rw [e] at ih
      exact ih
theorem T_fixedSet {m : Nat} (p : Nat → Bool) (hp : ∀ a, a < 8 → (p a = true ↔ (ki a = 1 ∨ ki a = 3))) (h0 : h t = tO t (nI m) pu ye) (h1 : h (t + 1) = aI 8 ki) (hm : m ≤ 8) : WpM 35 [.ref t] h Q = Q (some (.int (nI (enc p m)))) h := by
  rw [eT_fixedSet]
  simp only [qT_fixedSet_0, w0, w1, w2i, w2r, w3, w4, w5_0, w5_1, w5_2, w5_3, w5_4, w5_5, w5_6, w5_7, w5_8, w6_0, w6_1, w7_0, w7_1, w7_2, w7_3, w7_4, w7_5, w8_0, w8_1, w9_0, w9_1, w9_2, w10_0, w10_1, w10_2, w10_3, w10_4, w10_5, w11, w12_0, w12_1, w12_2, w12_3, w12_4, w12_5, w13_0, w13_1, w13_2, w13_3, w13_4, w13_5, w14, w15i, w15r, w16, w17, w18, w19i, w19z, w19l, w20, w21, w22, w23, w24, w25, w26, w27, w28_1, w28_2, w28_3, w28_4, w28_5, w28_6, w29, w30i, w30z, w31, w32, w33, w34, w35, w36, w37_1, w37_2, w37_3, w37_4, w37_5, w37_6, isO_O, set1_0, set1_1i, set1_1r, set1_1n, set1_1l, set1_s, set2_0, set2_1i, set2_1r, set2_1n, set2_1l, set2_s, ldv_i, ldv_l, ldv_r, ldv_s, ldi_i, ldi_s, fK_0, fK_s, gfc_O, fS_0, fS_s, uH_s, uH_n, uH_u, tl_s, tl_n, b1_0, b1_1, ite_true, ite_false, if_true, if_false, List.length_nil, List.length_cons, Nat.zero_le, Nat.zero_add, Nat.reduceAdd, Nat.reduceLeDiff, Nat.reduceEqDiff, Nat.reduceMul, Nat.add_left_cancel_iff, not_false_eq_true]
  exact T_fixedSet_loop p hp h0 h1 hm m 0 (by omega)
theorem T_besideSet_loop {m a : Nat} (p : Nat → Bool) (hp : ∀ b, b < 8 → (p b = true ↔ ¬ sh (8 * a + b) ≤ 0)) (h0 : h t = tO t (nI m) pu ye) (h5 : h (t + 5) = aI 64 sh) (hm : m ≤ 8) (ha : a < 8) : ∀ (d i : Nat), i + d = m → Wp none 37 qT_besideSet_4 [some (.ref t), some (.int (nI a)), some (.int (nI (enc p i))), some (.int (nI i))] [] h Q = Q (some (.int (nI (enc p m)))) h := by
  intro d
  induction d with
  | zero =>
    intro i hi
    have e : i = m := by omega
    subst e
    have hc : nI i ≤ nI i := nI_le (Nat.le_refl i) (by omega)
    simp only [qT_besideSet_4, qT_besideSet_33, jT_besideSet_33, w0, w1, w2i, w2r, w3, w4, w5_0, w5_1, w5_2, w5_3, w5_4, w5_5, w5_6, w5_7, w5_8, w6_0, w6_1, w7_0, w7_1, w7_2, w7_3, w7_4, w7_5, w8_0, w8_1, w9_0, w9_1, w9_2, w10_0, w10_1, w10_2, w10_3, w10_4, w10_5, w11, w12_0, w12_1, w12_2, w12_3, w12_4, w12_5, w13_0, w13_1, w13_2, w13_3, w13_4, w13_5, w14, w15i, w15r, w16, w17, w18, w19i, w19z, w19l, w20, w21, w22, w23, w24, w25, w26, w27, w28_1, w28_2, w28_3, w28_4, w28_5, w28_6, w29, w30i, w30z, w31, w32, w33, w34, w35, w36, w37_1, w37_2, w37_3, w37_4, w37_5, w37_6, isO_O, set1_0, set1_1i, set1_1r, set1_1n, set1_1l, set1_s, set2_0, set2_1i, set2_1r, set2_1n, set2_1l, set2_s, ldv_i, ldv_l, ldv_r, ldv_s, ldi_i, ldi_s, fK_0, fK_s, gfc_O, fS_0, fS_s, uH_s, uH_n, uH_u, tl_s, tl_n, b1_0, b1_1, ite_true, ite_false, if_true, if_false, List.length_nil, List.length_cons, Nat.zero_le, Nat.zero_add, Nat.reduceAdd, Nat.reduceLeDiff, Nat.reduceEqDiff, Nat.reduceMul, Nat.add_left_cancel_iff, not_false_eq_true, h0, hc]
  | succ d ih =>
    intro i hi
    have hc : ¬ nI m ≤ nI i := nI_ge (by omega) (by omega)
    rw [qT_besideSet_4]
    simp only [qT_besideSet_27, jT_besideSet_27, w0, w1, w2i, w2r, w3, w4, w5_0, w5_1, w5_2, w5_3, w5_4, w5_5, w5_6, w5_7, w5_8, w6_0, w6_1, w7_0, w7_1, w7_2, w7_3, w7_4, w7_5, w8_0, w8_1, w9_0, w9_1, w9_2, w10_0, w10_1, w10_2, w10_3, w10_4, w10_5, w11, w12_0, w12_1, w12_2, w12_3, w12_4, w12_5, w13_0, w13_1, w13_2, w13_3, w13_4, w13_5, w14, w15i, w15r, w16, w17, w18, w19i, w19z, w19l, w20, w21, w22, w23, w24, w25, w26, w27, w28_1, w28_2, w28_3, w28_4, w28_5, w28_6, w29, w30i, w30z, w31, w32, w33, w34, w35, w36, w37_1, w37_2, w37_3, w37_4, w37_5, w37_6, isO_O, set1_0, set1_1i, set1_1r, set1_1n, set1_1l, set1_s, set2_0, set2_1i, set2_1r, set2_1n, set2_1l, set2_s, ldv_i, ldv_l, ldv_r, ldv_s, ldi_i, ldi_s, fK_0, fK_s, gfc_O, fS_0, fS_s, uH_s, uH_n, uH_u, tl_s, tl_n, b1_0, b1_1, ite_true, ite_false, if_true, if_false, List.length_nil, List.length_cons, Nat.zero_le, Nat.zero_add, Nat.reduceAdd, Nat.reduceLeDiff, Nat.reduceEqDiff, Nat.reduceMul, Nat.add_left_cancel_iff, not_false_eq_true, h0, hc, jT_besideSet_4, T_shareOf h0 h5 ha (show i < 8 by omega), nI_1, shl1 i (by omega), fa_or]
    have ih := ih (i + 1) (by omega)
    by_cases hs : sh (8 * a + i) ≤ 0
    · rw [if_pos hs]
      have e : enc p (i + 1) = enc p i := by rw [enc, if_neg (fun z => (hp i (by omega)).mp z hs)]
      rw [e] at ih
      exact ih
    · rw [if_neg hs]
      have e : enc p (i + 1) = enc p i ||| 2 ^ i := by rw [enc, if_pos ((hp i (by omega)).mpr hs)]
      rw [e] at ih
      exact ih
theorem T_besideSet {m a : Nat} (p : Nat → Bool) (hp : ∀ b, b < 8 → (p b = true ↔ ¬ sh (8 * a + b) ≤ 0)) (h0 : h t = tO t (nI m) pu ye) (h5 : h (t + 5) = aI 64 sh) (hm : m ≤ 8) (ha : a < 8) : WpM 37 [.ref t, .int (nI a)] h Q = Q (some (.int (nI (enc p m)))) h := by
  rw [eT_besideSet]
  simp only [qT_besideSet_0, w0, w1, w2i, w2r, w3, w4, w5_0, w5_1, w5_2, w5_3, w5_4, w5_5, w5_6, w5_7, w5_8, w6_0, w6_1, w7_0, w7_1, w7_2, w7_3, w7_4, w7_5, w8_0, w8_1, w9_0, w9_1, w9_2, w10_0, w10_1, w10_2, w10_3, w10_4, w10_5, w11, w12_0, w12_1, w12_2, w12_3, w12_4, w12_5, w13_0, w13_1, w13_2, w13_3, w13_4, w13_5, w14, w15i, w15r, w16, w17, w18, w19i, w19z, w19l, w20, w21, w22, w23, w24, w25, w26, w27, w28_1, w28_2, w28_3, w28_4, w28_5, w28_6, w29, w30i, w30z, w31, w32, w33, w34, w35, w36, w37_1, w37_2, w37_3, w37_4, w37_5, w37_6, isO_O, set1_0, set1_1i, set1_1r, set1_1n, set1_1l, set1_s, set2_0, set2_1i, set2_1r, set2_1n, set2_1l, set2_s, ldv_i, ldv_l, ldv_r, ldv_s, ldi_i, ldi_s, fK_0, fK_s, gfc_O, fS_0, fS_s, uH_s, uH_n, uH_u, tl_s, tl_n, b1_0, b1_1, ite_true, ite_false, if_true, if_false, List.length_nil, List.length_cons, Nat.zero_le, Nat.zero_add, Nat.reduceAdd, Nat.reduceLeDiff, Nat.reduceEqDiff, Nat.reduceMul, Nat.add_left_cancel_iff, not_false_eq_true]
  exact T_besideSet_loop p hp h0 h5 hm ha m 0 (by omega)
end TOWN

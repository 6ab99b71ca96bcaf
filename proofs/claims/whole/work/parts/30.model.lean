/-! the reference: small methods and loops, as equations -/
abbrev mO (ho pu ye bo ta ax wr : Int32) (be : Int64) (kn pr im : Int32) : AC := aO 5 [.int ho, .ref 40, .ref 41, .ref 42, .ref 43, .ref 44, .int pu, .int ye, .int bo, .ref 45, .int ta, .int ax, .int wr, .ref 46, .ref 47, .ref 48, .ref 49, .ref 50, .long be, .int kn, .int pr, .ref 51, .ref 52, .ref 53, .ref 54, .ref 55, .ref 56, .int im, .ref 57, .ref 58, .ref 59, .ref 60]
theorem nIm1 : ∀ n, n ≤ 8 → (nI n - 1).toInt = (n : Int) - 1 := by decide
theorem hs_eq {n : Nat} (hn : n ≤ 8) (v : Int32) : ((nI n - 1) < v) = (nI n ≤ v) := by
  apply propext
  rw [fa_lt, fa_le, nIm1 n hn, nI_toInt (by omega)]
  omega
/-- set bits, of a round over the houses beside -/
def mr1 (sh : Nat → Int32) (a : Nat) (s : Nat) : Nat → Nat
  | 0 => s
  | o + 1 => if (mr1 sh a s o).testBit o = true ∧ ¬ sh (8 * a + o) ≤ 0 then mr1 sh a s o ||| 2 ^ a else mr1 sh a s o
def mr2 (sh : Nat → Int32) (m s : Nat) : Nat → Nat
  | 0 => s
  | a + 1 => mr1 sh a (mr2 sh m s a) m
def mr3 (sh : Nat → Int32) (m s : Nat) : Nat → Nat
  | 0 => s
  | r + 1 => mr2 sh m (mr3 sh m s r) m
def fxM (ki : Nat → Int32) (b a : Nat) : Bool := decide (ki a = 1 ∨ ki a = 3 ∨ b.testBit a = true)
def rcM (ki sh : Nat → Int32) (b m : Nat) : Nat := mr3 sh m (enc (fxM ki b) m) m
theorem mr1_lt {sh : Nat → Int32} {a s : Nat} (ha : a < 8) (hs : s < 2 ^ 8) : ∀ o, mr1 sh a s o < 2 ^ 8
  | 0 => hs
  | o + 1 => by
    have ih := mr1_lt (sh := sh) ha hs o
    unfold mr1
    split
    · exact Nat.or_lt_two_pow ih (Nat.pow_lt_pow_right (by decide) ha)
    · exact ih
theorem mr2_lt {sh : Nat → Int32} {m s : Nat} (hs : s < 2 ^ 8) : ∀ a, a ≤ 8 → mr2 sh m s a < 2 ^ 8
  | 0, _ => hs
  | a + 1, h => mr1_lt (by omega) (mr2_lt hs a (by omega)) m
theorem mr3_lt {sh : Nat → Int32} {m s : Nat} (hm : m ≤ 8) (hs : s < 2 ^ 8) : ∀ r, mr3 sh m s r < 2 ^ 8
  | 0 => hs
  | r + 1 => mr2_lt (mr3_lt hm hs r) m hm
theorem encM_lt (p : Nat → Bool) {m : Nat} (hm : m ≤ 8) : enc p m < 2 ^ 8 := Nat.lt_of_lt_of_le (enc_lt p m) (Nat.pow_le_pow_right (show 0 < 2 by decide) hm)
theorem rcM_lt (ki sh : Nat → Int32) (b : Nat) {m : Nat} (hm : m ≤ 8) : rcM ki sh b m < 256 := mr3_lt hm (encM_lt _ hm) m
def popc (x : Nat) : Nat := (if x.testBit 0 then 1 else 0) + (if x.testBit 1 then 1 else 0) + (if x.testBit 2 then 1 else 0) + (if x.testBit 3 then 1 else 0) + (if x.testBit 4 then 1 else 0) + (if x.testBit 5 then 1 else 0) + (if x.testBit 6 then 1 else 0) + (if x.testBit 7 then 1 else 0)
theorem pop_step : ∀ x, x < 256 → x ≠ 0 → ∃ y, y < x ∧ nI x &&& (nI x - 1) = nI y ∧ popc y + 1 = popc x := by
  have key : ∀ x, x < 256 → x ≠ 0 → (x &&& (x - 1)) < x ∧ nI x &&& (nI x - 1) = nI (x &&& (x - 1)) ∧ popc (x &&& (x - 1)) + 1 = popc x := by decide +kernel
  intro x h1 h2
  exact ⟨_, key x h1 h2⟩
theorem pop_0 : popc 0 = 0 := by decide
theorem pop_bc : ∀ x, x < 256 → True := fun _ _ => trivial
/-- what a house asks a year after the askings f -/
def goF (sh f ki ca : Nat → Int32) (b m a : Nat) : Int32 := if ki a = 2 ∧ 0 < wt sh a m ∧ ca a < (if (ki a = 1 ∨ ki a = 3 ∨ b.testBit a = true) ∨ wt sh a m = 0 then f a else tg sh f a m / wt sh a m) then ca a else (if (ki a = 1 ∨ ki a = 3 ∨ b.testBit a = true) ∨ wt sh a m = 0 then f a else tg sh f a m / wt sh a m)
def goA (sh f ki ca : Nat → Int32) (b m : Nat) (th : Nat → Int32) : Nat → Nat → Int32
  | 0 => th
  | a + 1 => upd (goA sh f ki ca b m th a) a (goF sh f ki ca b m a)
section MODEL
variable {h : AH} {Q : Option Value → AH → Prop} {ho pu ye bo ta ax wr : Int32} {be : Int64} {kn pr im : Int32} {ki as ow ca sh th f : Nat → Int32} {m b : Nat}
theorem M_isHouse {v : Int32} (h39 : h 39 = mO (nI m) pu ye bo ta ax wr be kn pr im) (hm : m ≤ 8) : WpM 87 [.ref 39, .int v] h Q = Q (some (.int (if v < 0 ∨ nI m ≤ v then 0 else 1))) h := by
  rw [eM_isHouse]
  have e1 : (v.toInt64 < 0) = (v < 0) := propext (fa_wide_lt v 0)
  have e2 : ((nI m - 1).toInt64 < v.toInt64) = (nI m ≤ v) := (propext (fa_wide_lt _ v)).trans (hs_eq hm v)
  simp only [qM_isHouse_0, jM_isHouse_0, w0, w1, w2i, w2r, w3, w4, w5_0, w5_1, w5_2, w5_3, w5_4, w5_5, w5_6, w5_7, w5_8, w6_0, w6_1, w7_0, w7_1, w7_2, w7_3, w7_4, w7_5, w8_0, w8_1, w9_0, w9_1, w9_2, w10_0, w10_1, w10_2, w10_3, w10_4, w10_5, w11, w12_0, w12_1, w12_2, w12_3, w12_4, w12_5, w13_0, w13_1, w13_2, w13_3, w13_4, w13_5, w14, w15i, w15r, w16, w17, w18, w19i, w19z, w19l, w20, w21, w22, w23, w24, w25, w26, w27, w28_1, w28_2, w28_3, w28_4, w28_5, w28_6, w29, w30i, w30z, w31, w32, w33, w34, w35, w36, w37_1, w37_2, w37_3, w37_4, w37_5, w37_6, isO_O, set1_0, set1_1i, set1_1r, set1_1n, set1_1l, set1_s, set2_0, set2_1i, set2_1r, set2_1n, set2_1l, set2_s, ldv_i, ldv_l, ldv_r, ldv_s, ldi_i, ldi_s, fK_0, fK_s, gfc_O, fS_0, fS_s, uH_s, uH_n, uH_u, tl_s, tl_n, b1_0, b1_1, ite_true, ite_false, if_true, if_false, List.length_nil, List.length_cons, Nat.zero_le, Nat.zero_add, Nat.reduceAdd, Nat.reduceLeDiff, Nat.reduceLT, Nat.reduceEqDiff, Nat.reduceMul, Nat.add_left_cancel_iff, not_false_eq_true, h39, M_in, zb, e1, e2]
theorem M_areTwo {a c : Int32} (h39 : h 39 = mO (nI m) pu ye bo ta ax wr be kn pr im) (hm : m ≤ 8) : WpM 88 [.ref 39, .int a, .int c] h Q = Q (some (.int (if (a < 0 ∨ nI m ≤ a) ∨ (c < 0 ∨ nI m ≤ c) ∨ a = c then 0 else 1))) h := by
  rw [eM_areTwo]
  simp only [qM_areTwo_0, jM_areTwo_0, qM_areTwo_25, jM_areTwo_25, qM_areTwo_26, jM_areTwo_26, w0, w1, w2i, w2r, w3, w4, w5_0, w5_1, w5_2, w5_3, w5_4, w5_5, w5_6, w5_7, w5_8, w6_0, w6_1, w7_0, w7_1, w7_2, w7_3, w7_4, w7_5, w8_0, w8_1, w9_0, w9_1, w9_2, w10_0, w10_1, w10_2, w10_3, w10_4, w10_5, w11, w12_0, w12_1, w12_2, w12_3, w12_4, w12_5, w13_0, w13_1, w13_2, w13_3, w13_4, w13_5, w14, w15i, w15r, w16, w17, w18, w19i, w19z, w19l, w20, w21, w22, w23, w24, w25, w26, w27, w28_1, w28_2, w28_3, w28_4, w28_5, w28_6, w29, w30i, w30z, w31, w32, w33, w34, w35, w36, w37_1, w37_2, w37_3, w37_4, w37_5, w37_6, isO_O, set1_0, set1_1i, set1_1r, set1_1n, set1_1l, set1_s, set2_0, set2_1i, set2_1r, set2_1n, set2_1l, set2_s, ldv_i, ldv_l, ldv_r, ldv_s, ldi_i, ldi_s, fK_0, fK_s, gfc_O, fS_0, fS_s, uH_s, uH_n, uH_u, tl_s, tl_n, b1_0, b1_1, ite_true, ite_false, if_true, if_false, List.length_nil, List.length_cons, Nat.zero_le, Nat.zero_add, Nat.reduceAdd, Nat.reduceLeDiff, Nat.reduceLT, Nat.reduceEqDiff, Nat.reduceMul, Nat.add_left_cancel_iff, not_false_eq_true, h39, M_isHouse h39 hm, z01]
  by_cases h1 : a < 0 ∨ nI m ≤ a
  · simp [h1]
  · by_cases h2 : c < 0 ∨ nI m ≤ c
    · simp [h1, h2]
    · by_cases h3 : a = c
      · simp [h1, h2, h3]
      · simp [h1, h2, h3]
theorem M_puts {a c : Nat} {v : Int32} (h39 : h 39 = mO ho pu ye bo ta ax wr be kn pr im) (h44 : h 44 = aI 64 sh) (ha : a < 8) (hc : c < 8) : WpM 91 [.ref 39, .int (nI a), .int (nI c), .int v] h Q = Q none (uH h 44 (aI 64 (upd (upd sh (8 * a + c) v) (8 * c + a) v))) := by
  rw [eM_puts]
  simp only [qM_puts_0, jM_puts_0, w0, w1, w2i, w2r, w3, w4, w5_0, w5_1, w5_2, w5_3, w5_4, w5_5, w5_6, w5_7, w5_8, w6_0, w6_1, w7_0, w7_1, w7_2, w7_3, w7_4, w7_5, w8_0, w8_1, w9_0, w9_1, w9_2, w10_0, w10_1, w10_2, w10_3, w10_4, w10_5, w11, w12_0, w12_1, w12_2, w12_3, w12_4, w12_5, w13_0, w13_1, w13_2, w13_3, w13_4, w13_5, w14, w15i, w15r, w16, w17, w18, w19i, w19z, w19l, w20, w21, w22, w23, w24, w25, w26, w27, w28_1, w28_2, w28_3, w28_4, w28_5, w28_6, w29, w30i, w30z, w31, w32, w33, w34, w35, w36, w37_1, w37_2, w37_3, w37_4, w37_5, w37_6, isO_O, set1_0, set1_1i, set1_1r, set1_1n, set1_1l, set1_s, set2_0, set2_1i, set2_1r, set2_1n, set2_1l, set2_s, ldv_i, ldv_l, ldv_r, ldv_s, ldi_i, ldi_s, fK_0, fK_s, gfc_O, fS_0, fS_s, uH_s, uH_n, uH_u, tl_s, tl_n, b1_0, b1_1, ite_true, ite_false, if_true, if_false, List.length_nil, List.length_cons, Nat.zero_le, Nat.zero_add, Nat.reduceAdd, Nat.reduceLeDiff, Nat.reduceLT, Nat.reduceEqDiff, Nat.reduceMul, Nat.add_left_cancel_iff, not_false_eq_true, h39, h44, n8a, wIc_n (show 8 * a + c < 64 by omega) (show 64 < 2 ^ 31 by decide), wIc_n (show 8 * c + a < 64 by omega) (show 64 < 2 ^ 31 by decide)]
theorem M_comes_loop {k v : Int32} (hm : m < 8) : ∀ (d i : Nat) (h : AH), i + d = 8 → h 39 = mO (nI m) pu ye bo ta ax wr be kn pr im → h 44 = aI 64 (pdF sh m i) → Wp none 89 qM_comes_43 [some (.ref 39), some (.int k), some (.int v), some (.int (nI i))] [] h Q = Q none (uH (uH h 44 (aI 64 (pdF sh m 8))) 39 (mO (nI (m + 1)) pu ye bo ta ax wr be kn pr im)) := by
  intro d
  induction d with
  | zero =>
    intro i h hi h39 h44
    have e : i = 8 := by omega
    subst e
    have hc : (8 : Int32) ≤ nI 8 := by decide
    simp only [qM_comes_43, qM_comes_85, jM_comes_85, w0, w1, w2i, w2r, w3, w4, w5_0, w5_1, w5_2, w5_3, w5_4, w5_5, w5_6, w5_7, w5_8, w6_0, w6_1, w7_0, w7_1, w7_2, w7_3, w7_4, w7_5, w8_0, w8_1, w9_0, w9_1, w9_2, w10_0, w10_1, w10_2, w10_3, w10_4, w10_5, w11, w12_0, w12_1, w12_2, w12_3, w12_4, w12_5, w13_0, w13_1, w13_2, w13_3, w13_4, w13_5, w14, w15i, w15r, w16, w17, w18, w19i, w19z, w19l, w20, w21, w22, w23, w24, w25, w26, w27, w28_1, w28_2, w28_3, w28_4, w28_5, w28_6, w29, w30i, w30z, w31, w32, w33, w34, w35, w36, w37_1, w37_2, w37_3, w37_4, w37_5, w37_6, isO_O, set1_0, set1_1i, set1_1r, set1_1n, set1_1l, set1_s, set2_0, set2_1i, set2_1r, set2_1n, set2_1l, set2_s, ldv_i, ldv_l, ldv_r, ldv_s, ldi_i, ldi_s, fK_0, fK_s, gfc_O, fS_0, fS_s, uH_s, uH_n, uH_u, tl_s, tl_n, b1_0, b1_1, ite_true, ite_false, if_true, if_false, List.length_nil, List.length_cons, Nat.zero_le, Nat.zero_add, Nat.reduceAdd, Nat.reduceLeDiff, Nat.reduceLT, Nat.reduceEqDiff, Nat.reduceMul, Nat.add_left_cancel_iff, not_false_eq_true, hc, h39, nI_1, pfc_O]
    rw [uH_id h h44]
  | succ d ih =>
    intro i h hi h39 h44
    have hc : ¬ (8 : Int32) ≤ nI i := nI_ge (b := 8) (by omega) (by decide)
    rw [qM_comes_43]
    simp only [w0, w1, w2i, w2r, w3, w4, w5_0, w5_1, w5_2, w5_3, w5_4, w5_5, w5_6, w5_7, w5_8, w6_0, w6_1, w7_0, w7_1, w7_2, w7_3, w7_4, w7_5, w8_0, w8_1, w9_0, w9_1, w9_2, w10_0, w10_1, w10_2, w10_3, w10_4, w10_5, w11, w12_0, w12_1, w12_2, w12_3, w12_4, w12_5, w13_0, w13_1, w13_2, w13_3, w13_4, w13_5, w14, w15i, w15r, w16, w17, w18, w19i, w19z, w19l, w20, w21, w22, w23, w24, w25, w26, w27, w28_1, w28_2, w28_3, w28_4, w28_5, w28_6, w29, w30i, w30z, w31, w32, w33, w34, w35, w36, w37_1, w37_2, w37_3, w37_4, w37_5, w37_6, isO_O, set1_0, set1_1i, set1_1r, set1_1n, set1_1l, set1_s, set2_0, set2_1i, set2_1r, set2_1n, set2_1l, set2_s, ldv_i, ldv_l, ldv_r, ldv_s, ldi_i, ldi_s, fK_0, fK_s, gfc_O, fS_0, fS_s, uH_s, uH_n, uH_u, tl_s, tl_n, b1_0, b1_1, ite_true, ite_false, if_true, if_false, List.length_nil, List.length_cons, Nat.zero_le, Nat.zero_add, Nat.reduceAdd, Nat.reduceLeDiff, Nat.reduceLT, Nat.reduceEqDiff, Nat.reduceMul, Nat.add_left_cancel_iff, not_false_eq_true, h39, h44, hc, jM_comes_43, n8a, nI_1, wIc_n (show 8 * m + i < 64 by omega) (show 64 < 2 ^ 31 by decide), wIc_n (show 8 * i + m < 64 by omega) (show 64 < 2 ^ 31 by decide)]
    rw [ih (i + 1) _ (by omega) (by rw [uH_n _ _ (by omega)]; exact h39) (by rw [uH_s]; rfl), uH_u]
theorem M_comes {k v : Int32} (h39 : h 39 = mO (nI m) pu ye bo ta ax wr be kn pr im) (h40 : h 40 = aI 8 ki) (h41 : h 41 = aI 8 as) (h42 : h 42 = aI 8 ow) (h43 : h 43 = aI 8 ca) (h44 : h 44 = aI 64 sh) (hm : m < 8) : WpM 89 [.ref 39, .int k, .int v] h Q = Q none (uH (uH (uH (uH (uH (uH h 40 (aI 8 (upd ki m k))) 41 (aI 8 (upd as m v))) 42 (aI 8 (upd ow m 0))) 43 (aI 8 (upd ca m 99))) 44 (aI 64 (pdF sh m 8))) 39 (mO (nI (m + 1)) pu ye bo ta ax wr be kn pr im)) := by
  rw [eM_comes]
  simp only [qM_comes_0, w0, w1, w2i, w2r, w3, w4, w5_0, w5_1, w5_2, w5_3, w5_4, w5_5, w5_6, w5_7, w5_8, w6_0, w6_1, w7_0, w7_1, w7_2, w7_3, w7_4, w7_5, w8_0, w8_1, w9_0, w9_1, w9_2, w10_0, w10_1, w10_2, w10_3, w10_4, w10_5, w11, w12_0, w12_1, w12_2, w12_3, w12_4, w12_5, w13_0, w13_1, w13_2, w13_3, w13_4, w13_5, w14, w15i, w15r, w16, w17, w18, w19i, w19z, w19l, w20, w21, w22, w23, w24, w25, w26, w27, w28_1, w28_2, w28_3, w28_4, w28_5, w28_6, w29, w30i, w30z, w31, w32, w33, w34, w35, w36, w37_1, w37_2, w37_3, w37_4, w37_5, w37_6, isO_O, set1_0, set1_1i, set1_1r, set1_1n, set1_1l, set1_s, set2_0, set2_1i, set2_1r, set2_1n, set2_1l, set2_s, ldv_i, ldv_l, ldv_r, ldv_s, ldi_i, ldi_s, fK_0, fK_s, gfc_O, fS_0, fS_s, uH_s, uH_n, uH_u, tl_s, tl_n, b1_0, b1_1, ite_true, ite_false, if_true, if_false, List.length_nil, List.length_cons, Nat.zero_le, Nat.zero_add, Nat.reduceAdd, Nat.reduceLeDiff, Nat.reduceLT, Nat.reduceEqDiff, Nat.reduceMul, Nat.add_left_cancel_iff, not_false_eq_true, h39, h40, h41, h42, h43, wIc_n hm (show 8 < 2 ^ 31 by decide)]
  exact M_comes_loop (sh := sh) hm 8 0 _ (by omega) (by simp only [uH_n _ _ (show ¬ 39 = 43 by decide), uH_n _ _ (show ¬ 39 = 42 by decide), uH_n _ _ (show ¬ 39 = 41 by decide), uH_n _ _ (show ¬ 39 = 40 by decide)]; exact h39) (by simp only [uH_n _ _ (show ¬ 44 = 43 by decide), uH_n _ _ (show ¬ 44 = 42 by decide), uH_n _ _ (show ¬ 44 = 41 by decide), uH_n _ _ (show ¬ 44 = 40 by decide)]; exact h44)
theorem M_weight_loop {a : Nat} (h39 : h 39 = mO (nI m) pu ye bo ta ax wr be kn pr im) (h44 : h 44 = aI 64 sh) (hm : m ≤ 8) (ha : a < 8) : ∀ (d i : Nat), i + d = m → Wp none 96 qM_weight_4 [some (.ref 39), some (.int (nI a)), some (.int (wt sh a i)), some (.int (nI i))] [] h Q = Q (some (.int (wt sh a m))) h := by
  intro d
  induction d with
  | zero =>
    intro i hi
    have e : i = m := by omega
    subst e
    have hc : nI i ≤ nI i := nI_le (Nat.le_refl i) (by omega)
    simp only [qM_weight_4, qM_weight_32, jM_weight_32, w0, w1, w2i, w2r, w3, w4, w5_0, w5_1, w5_2, w5_3, w5_4, w5_5, w5_6, w5_7, w5_8, w6_0, w6_1, w7_0, w7_1, w7_2, w7_3, w7_4, w7_5, w8_0, w8_1, w9_0, w9_1, w9_2, w10_0, w10_1, w10_2, w10_3, w10_4, w10_5, w11, w12_0, w12_1, w12_2, w12_3, w12_4, w12_5, w13_0, w13_1, w13_2, w13_3, w13_4, w13_5, w14, w15i, w15r, w16, w17, w18, w19i, w19z, w19l, w20, w21, w22, w23, w24, w25, w26, w27, w28_1, w28_2, w28_3, w28_4, w28_5, w28_6, w29, w30i, w30z, w31, w32, w33, w34, w35, w36, w37_1, w37_2, w37_3, w37_4, w37_5, w37_6, isO_O, set1_0, set1_1i, set1_1r, set1_1n, set1_1l, set1_s, set2_0, set2_1i, set2_1r, set2_1n, set2_1l, set2_s, ldv_i, ldv_l, ldv_r, ldv_s, ldi_i, ldi_s, fK_0, fK_s, gfc_O, fS_0, fS_s, uH_s, uH_n, uH_u, tl_s, tl_n, b1_0, b1_1, ite_true, ite_false, if_true, if_false, List.length_nil, List.length_cons, Nat.zero_le, Nat.zero_add, Nat.reduceAdd, Nat.reduceLeDiff, Nat.reduceLT, Nat.reduceEqDiff, Nat.reduceMul, Nat.add_left_cancel_iff, not_false_eq_true, h39, hc]
  | succ d ih =>
    intro i hi
    have hc : ¬ nI m ≤ nI i := nI_ge (by omega) (by omega)
    rw [qM_weight_4]
    simp only [w0, w1, w2i, w2r, w3, w4, w5_0, w5_1, w5_2, w5_3, w5_4, w5_5, w5_6, w5_7, w5_8, w6_0, w6_1, w7_0, w7_1, w7_2, w7_3, w7_4, w7_5, w8_0, w8_1, w9_0, w9_1, w9_2, w10_0, w10_1, w10_2, w10_3, w10_4, w10_5, w11, w12_0, w12_1, w12_2, w12_3, w12_4, w12_5, w13_0, w13_1, w13_2, w13_3, w13_4, w13_5, w14, w15i, w15r, w16, w17, w18, w19i, w19z, w19l, w20, w21, w22, w23, w24, w25, w26, w27, w28_1, w28_2, w28_3, w28_4, w28_5, w28_6, w29, w30i, w30z, w31, w32, w33, w34, w35, w36, w37_1, w37_2, w37_3, w37_4, w37_5, w37_6, isO_O, set1_0, set1_1i, set1_1r, set1_1n, set1_1l, set1_s, set2_0, set2_1i, set2_1r, set2_1n, set2_1l, set2_s, ldv_i, ldv_l, ldv_r, ldv_s, ldi_i, ldi_s, fK_0, fK_s, gfc_O, fS_0, fS_s, uH_s, uH_n, uH_u, tl_s, tl_n, b1_0, b1_1, ite_true, ite_false, if_true, if_false, List.length_nil, List.length_cons, Nat.zero_le, Nat.zero_add, Nat.reduceAdd, Nat.reduceLeDiff, Nat.reduceLT, Nat.reduceEqDiff, Nat.reduceMul, Nat.add_left_cancel_iff, not_false_eq_true, h39, h44, hc, jM_weight_4, n8a, rIc_n (show 8 * a + i < 64 by omega) (show 64 < 2 ^ 31 by decide), nI_1]
    exact ih (i + 1) (by omega)
theorem M_weight {a : Nat} (h39 : h 39 = mO (nI m) pu ye bo ta ax wr be kn pr im) (h44 : h 44 = aI 64 sh) (hm : m ≤ 8) (ha : a < 8) : WpM 96 [.ref 39, .int (nI a)] h Q = Q (some (.int (wt sh a m))) h := by
  rw [eM_weight]
  simp only [qM_weight_0, w0, w1, w2i, w2r, w3, w4, w5_0, w5_1, w5_2, w5_3, w5_4, w5_5, w5_6, w5_7, w5_8, w6_0, w6_1, w7_0, w7_1, w7_2, w7_3, w7_4, w7_5, w8_0, w8_1, w9_0, w9_1, w9_2, w10_0, w10_1, w10_2, w10_3, w10_4, w10_5, w11, w12_0, w12_1, w12_2, w12_3, w12_4, w12_5, w13_0, w13_1, w13_2, w13_3, w13_4, w13_5, w14, w15i, w15r, w16, w17, w18, w19i, w19z, w19l, w20, w21, w22, w23, w24, w25, w26, w27, w28_1, w28_2, w28_3, w28_4, w28_5, w28_6, w29, w30i, w30z, w31, w32, w33, w34, w35, w36, w37_1, w37_2, w37_3, w37_4, w37_5, w37_6, isO_O, set1_0, set1_1i, set1_1r, set1_1n, set1_1l, set1_s, set2_0, set2_1i, set2_1r, set2_1n, set2_1l, set2_s, ldv_i, ldv_l, ldv_r, ldv_s, ldi_i, ldi_s, fK_0, fK_s, gfc_O, fS_0, fS_s, uH_s, uH_n, uH_u, tl_s, tl_n, b1_0, b1_1, ite_true, ite_false, if_true, if_false, List.length_nil, List.length_cons, Nat.zero_le, Nat.zero_add, Nat.reduceAdd, Nat.reduceLeDiff, Nat.reduceLT, Nat.reduceEqDiff, Nat.reduceMul, Nat.add_left_cancel_iff, not_false_eq_true]
  exact M_weight_loop h39 h44 hm ha m 0 (by omega)
theorem M_isFixed {a : Nat} (h39 : h 39 = mO ho pu ye (nI b) ta ax wr be kn pr im) (h40 : h 40 = aI 8 ki) (hb : b < 256) (ha : a < 8) : WpM 97 [.ref 39, .int (nI a)] h Q = Q (some (.int (if ¬ (ki a = 1 ∨ ki a = 3 ∨ b.testBit a = true) then 0 else 1))) h := by
  rw [eM_isFixed]
  simp only [qM_isFixed_0, jM_isFixed_0, qM_isFixed_32, jM_isFixed_32, qM_isFixed_36, jM_isFixed_36, qM_isFixed_37, jM_isFixed_37, w0, w1, w2i, w2r, w3, w4, w5_0, w5_1, w5_2, w5_3, w5_4, w5_5, w5_6, w5_7, w5_8, w6_0, w6_1, w7_0, w7_1, w7_2, w7_3, w7_4, w7_5, w8_0, w8_1, w9_0, w9_1, w9_2, w10_0, w10_1, w10_2, w10_3, w10_4, w10_5, w11, w12_0, w12_1, w12_2, w12_3, w12_4, w12_5, w13_0, w13_1, w13_2, w13_3, w13_4, w13_5, w14, w15i, w15r, w16, w17, w18, w19i, w19z, w19l, w20, w21, w22, w23, w24, w25, w26, w27, w28_1, w28_2, w28_3, w28_4, w28_5, w28_6, w29, w30i, w30z, w31, w32, w33, w34, w35, w36, w37_1, w37_2, w37_3, w37_4, w37_5, w37_6, isO_O, set1_0, set1_1i, set1_1r, set1_1n, set1_1l, set1_s, set2_0, set2_1i, set2_1r, set2_1n, set2_1l, set2_s, ldv_i, ldv_l, ldv_r, ldv_s, ldi_i, ldi_s, fK_0, fK_s, gfc_O, fS_0, fS_s, uH_s, uH_n, uH_u, tl_s, tl_n, b1_0, b1_1, ite_true, ite_false, if_true, if_false, List.length_nil, List.length_cons, Nat.zero_le, Nat.zero_add, Nat.reduceAdd, Nat.reduceLeDiff, Nat.reduceLT, Nat.reduceEqDiff, Nat.reduceMul, Nat.add_left_cancel_iff, not_false_eq_true, h39, h40, rIc_n ha (show 8 < 2 ^ 31 by decide), bit1 (show b < 2 ^ 31 by omega) (show a < 31 by omega), ne_eq]
  by_cases h1 : ki a = 1 <;> by_cases h2 : ki a = 3 <;> by_cases h3 : b.testBit a = true <;> simp [h1, h2, h3]
theorem M_isKnown {a k : Nat} (h39 : h 39 = mO ho pu ye bo ta ax wr be (nI k) pr im) (hk : k < 256) (ha : a < 8) : WpM 114 [.ref 39, .int (nI a)] h Q = Q (some (.int (if ¬ (k.testBit a = true) then 0 else 1))) h := by
  rw [eM_isKnown]
  simp only [qM_isKnown_0, jM_isKnown_0, qM_isKnown_16, jM_isKnown_16, qM_isKnown_17, jM_isKnown_17, w0, w1, w2i, w2r, w3, w4, w5_0, w5_1, w5_2, w5_3, w5_4, w5_5, w5_6, w5_7, w5_8, w6_0, w6_1, w7_0, w7_1, w7_2, w7_3, w7_4, w7_5, w8_0, w8_1, w9_0, w9_1, w9_2, w10_0, w10_1, w10_2, w10_3, w10_4, w10_5, w11, w12_0, w12_1, w12_2, w12_3, w12_4, w12_5, w13_0, w13_1, w13_2, w13_3, w13_4, w13_5, w14, w15i, w15r, w16, w17, w18, w19i, w19z, w19l, w20, w21, w22, w23, w24, w25, w26, w27, w28_1, w28_2, w28_3, w28_4, w28_5, w28_6, w29, w30i, w30z, w31, w32, w33, w34, w35, w36, w37_1, w37_2, w37_3, w37_4, w37_5, w37_6, isO_O, set1_0, set1_1i, set1_1r, set1_1n, set1_1l, set1_s, set2_0, set2_1i, set2_1r, set2_1n, set2_1l, set2_s, ldv_i, ldv_l, ldv_r, ldv_s, ldi_i, ldi_s, fK_0, fK_s, gfc_O, fS_0, fS_s, uH_s, uH_n, uH_u, tl_s, tl_n, b1_0, b1_1, ite_true, ite_false, if_true, if_false, List.length_nil, List.length_cons, Nat.zero_le, Nat.zero_add, Nat.reduceAdd, Nat.reduceLeDiff, Nat.reduceLT, Nat.reduceEqDiff, Nat.reduceMul, Nat.add_left_cancel_iff, not_false_eq_true, h39, bit1 (show k < 2 ^ 31 by omega) (show a < 31 by omega), ne_eq]
  by_cases h3 : k.testBit a = true <;> simp [h3]
theorem M_size_loop {z : Int32} : ∀ (x : Nat), x < 256 → ∀ (n : Nat), Wp none 101 qM_size_4 [some (.int z), some (.int (nI n)), some (.int (nI x))] [] h Q = Q (some (.int (nI (n + popc x)))) h := by
  intro x
  induction x using Nat.strongRecOn with
  | ind x ih =>
    intro hx n
    rw [qM_size_4]
    simp only [qM_size_20, jM_size_20, jM_size_4, w0, w1, w2i, w2r, w3, w4, w5_0, w5_1, w5_2, w5_3, w5_4, w5_5, w5_6, w5_7, w5_8, w6_0, w6_1, w7_0, w7_1, w7_2, w7_3, w7_4, w7_5, w8_0, w8_1, w9_0, w9_1, w9_2, w10_0, w10_1, w10_2, w10_3, w10_4, w10_5, w11, w12_0, w12_1, w12_2, w12_3, w12_4, w12_5, w13_0, w13_1, w13_2, w13_3, w13_4, w13_5, w14, w15i, w15r, w16, w17, w18, w19i, w19z, w19l, w20, w21, w22, w23, w24, w25, w26, w27, w28_1, w28_2, w28_3, w28_4, w28_5, w28_6, w29, w30i, w30z, w31, w32, w33, w34, w35, w36, w37_1, w37_2, w37_3, w37_4, w37_5, w37_6, isO_O, set1_0, set1_1i, set1_1r, set1_1n, set1_1l, set1_s, set2_0, set2_1i, set2_1r, set2_1n, set2_1l, set2_s, ldv_i, ldv_l, ldv_r, ldv_s, ldi_i, ldi_s, fK_0, fK_s, gfc_O, fS_0, fS_s, uH_s, uH_n, uH_u, tl_s, tl_n, b1_0, b1_1, ite_true, ite_false, if_true, if_false, List.length_nil, List.length_cons, Nat.zero_le, Nat.zero_add, Nat.reduceAdd, Nat.reduceLeDiff, Nat.reduceLT, Nat.reduceEqDiff, Nat.reduceMul, Nat.add_left_cancel_iff, not_false_eq_true, nI_z (show x < 2 ^ 31 by omega), nI_1]
    by_cases h0 : x = 0
    · subst h0; simp [pop_0]
    · rw [if_neg h0]
      obtain ⟨y, hy, e1, e2⟩ := pop_step x hx h0
      rw [e1, ih y hy (by omega) (n + 1), show n + 1 + popc y = n + popc x by omega]
theorem M_size {x : Nat} (hx : x < 256) : WpM 101 [.int (nI x)] h Q = Q (some (.int (nI (popc x)))) h := by
  rw [eM_size]
  simp only [qM_size_0, w0, w1, w2i, w2r, w3, w4, w5_0, w5_1, w5_2, w5_3, w5_4, w5_5, w5_6, w5_7, w5_8, w6_0, w6_1, w7_0, w7_1, w7_2, w7_3, w7_4, w7_5, w8_0, w8_1, w9_0, w9_1, w9_2, w10_0, w10_1, w10_2, w10_3, w10_4, w10_5, w11, w12_0, w12_1, w12_2, w12_3, w12_4, w12_5, w13_0, w13_1, w13_2, w13_3, w13_4, w13_5, w14, w15i, w15r, w16, w17, w18, w19i, w19z, w19l, w20, w21, w22, w23, w24, w25, w26, w27, w28_1, w28_2, w28_3, w28_4, w28_5, w28_6, w29, w30i, w30z, w31, w32, w33, w34, w35, w36, w37_1, w37_2, w37_3, w37_4, w37_5, w37_6, isO_O, set1_0, set1_1i, set1_1r, set1_1n, set1_1l, set1_s, set2_0, set2_1i, set2_1r, set2_1n, set2_1l, set2_s, ldv_i, ldv_l, ldv_r, ldv_s, ldi_i, ldi_s, fK_0, fK_s, gfc_O, fS_0, fS_s, uH_s, uH_n, uH_u, tl_s, tl_n, b1_0, b1_1, ite_true, ite_false, if_true, if_false, List.length_nil, List.length_cons, Nat.zero_le, Nat.zero_add, Nat.reduceAdd, Nat.reduceLeDiff, Nat.reduceLT, Nat.reduceEqDiff, Nat.reduceMul, Nat.add_left_cancel_iff, not_false_eq_true]
  have e := M_size_loop (h := h) (Q := Q) (z := nI x) x hx 0
  rw [show nI 0 = 0 from rfl, Nat.zero_add] at e
  exact e
theorem or0 (s : Nat) : nI s ||| 0 = nI s := by rw [show (0 : Int32) = nI 0 from rfl, fa_or, Nat.or_zero]
theorem M_reached_1 {x y z : Option Value} (h39 : h 39 = mO (nI m) pu ye (nI b) ta ax wr be kn pr im) (h40 : h 40 = aI 8 ki) (hb : b < 256) (hm : m ≤ 8) : ∀ (d i : Nat), i + d = m → Wp none 98 qM_reached_4 [some (.ref 39), some (.int (nI (enc (fxM ki b) i))), some (.int (nI i)), x, y, z] [] h Q = Wp none 98 qM_reached_36 [some (.ref 39), some (.int (nI (enc (fxM ki b) m))), some (.int (nI m)), x, y, z] [] h Q := by
  intro d
  induction d with
  | zero =>
    intro i hi
    have e : i = m := by omega
    subst e
    have hc : nI i ≤ nI i := nI_le (Nat.le_refl i) (by omega)
    rw [qM_reached_4]
    simp only [jM_reached_36, w0, w1, w2i, w2r, w3, w4, w5_0, w5_1, w5_2, w5_3, w5_4, w5_5, w5_6, w5_7, w5_8, w6_0, w6_1, w7_0, w7_1, w7_2, w7_3, w7_4, w7_5, w8_0, w8_1, w9_0, w9_1, w9_2, w10_0, w10_1, w10_2, w10_3, w10_4, w10_5, w11, w12_0, w12_1, w12_2, w12_3, w12_4, w12_5, w13_0, w13_1, w13_2, w13_3, w13_4, w13_5, w14, w15i, w15r, w16, w17, w18, w19i, w19z, w19l, w20, w21, w22, w23, w24, w25, w26, w27, w28_1, w28_2, w28_3, w28_4, w28_5, w28_6, w29, w30i, w30z, w31, w32, w33, w34, w35, w36, w37_1, w37_2, w37_3, w37_4, w37_5, w37_6, isO_O, set1_0, set1_1i, set1_1r, set1_1n, set1_1l, set1_s, set2_0, set2_1i, set2_1r, set2_1n, set2_1l, set2_s, ldv_i, ldv_l, ldv_r, ldv_s, ldi_i, ldi_s, fK_0, fK_s, gfc_O, fS_0, fS_s, uH_s, uH_n, uH_u, tl_s, tl_n, b1_0, b1_1, ite_true, ite_false, if_true, if_false, List.length_nil, List.length_cons, Nat.zero_le, Nat.zero_add, Nat.reduceAdd, Nat.reduceLeDiff, Nat.reduceLT, Nat.reduceEqDiff, Nat.reduceMul, Nat.add_left_cancel_iff, not_false_eq_true, h39, hc]
  | succ d ih =>
    intro i hi
    have hc : ¬ nI m ≤ nI i := nI_ge (by omega) (by omega)
    have i8 : i < 8 := by omega
    rw [qM_reached_4]
    simp only [qM_reached_27, jM_reached_27, qM_reached_28, jM_reached_28, jM_reached_4, w0, w1, w2i, w2r, w3, w4, w5_0, w5_1, w5_2, w5_3, w5_4, w5_5, w5_6, w5_7, w5_8, w6_0, w6_1, w7_0, w7_1, w7_2, w7_3, w7_4, w7_5, w8_0, w8_1, w9_0, w9_1, w9_2, w10_0, w10_1, w10_2, w10_3, w10_4, w10_5, w11, w12_0, w12_1, w12_2, w12_3, w12_4, w12_5, w13_0, w13_1, w13_2, w13_3, w13_4, w13_5, w14, w15i, w15r, w16, w17, w18, w19i, w19z, w19l, w20, w21, w22, w23, w24, w25, w26, w27, w28_1, w28_2, w28_3, w28_4, w28_5, w28_6, w29, w30i, w30z, w31, w32, w33, w34, w35, w36, w37_1, w37_2, w37_3, w37_4, w37_5, w37_6, isO_O, set1_0, set1_1i, set1_1r, set1_1n, set1_1l, set1_s, set2_0, set2_1i, set2_1r, set2_1n, set2_1l, set2_s, ldv_i, ldv_l, ldv_r, ldv_s, ldi_i, ldi_s, fK_0, fK_s, gfc_O, fS_0, fS_s, uH_s, uH_n, uH_u, tl_s, tl_n, b1_0, b1_1, ite_true, ite_false, if_true, if_false, List.length_nil, List.length_cons, Nat.zero_le, Nat.zero_add, Nat.reduceAdd, Nat.reduceLeDiff, Nat.reduceLT, Nat.reduceEqDiff, Nat.reduceMul, Nat.add_left_cancel_iff, not_false_eq_true, h39, hc, M_isFixed h39 h40 hb i8, z01, shl1 i (by omega), fa_or, or0, nI_1]
    have ih := ih (i + 1) (by omega)
    by_cases hf : ki i = 1 ∨ ki i = 3 ∨ b.testBit i = true
    · rw [if_neg (fun z => z hf)]
      rw [enc, if_pos (show fxM ki b i = true by simp [fxM, hf])] at ih
      exact ih
    · rw [if_pos hf]
      rw [enc, if_neg (show ¬ fxM ki b i = true by simp [fxM, hf])] at ih
      exact ih
theorem M_reached_o {a s : Nat} {x : Int32} {z : Option Value} (h39 : h 39 = mO (nI m) pu ye bo ta ax wr be kn pr im) (h44 : h 44 = aI 64 sh) (hm : m ≤ 8) (ha : a < 8) (hs : s < 2 ^ 8) : ∀ (d i : Nat) (z : Option Value), i + d = m → ∃ z' : Option Value, Wp none 98 qM_reached_59 [some (.ref 39), some (.int (nI (mr1 sh a s i))), some (.int x), some (.int (nI a)), some (.int (nI i)), z] [] h Q = Wp none 98 qM_reached_121 [some (.ref 39), some (.int (nI (mr1 sh a s m))), some (.int x), some (.int (nI a)), some (.int (nI m)), z'] [] h Q := by
  intro d
  induction d with
  | zero =>
    intro i z hi
    have e : i = m := by omega
    subst e
    have hc : nI i ≤ nI i := nI_le (Nat.le_refl i) (by omega)
    refine ⟨z, ?_⟩
    rw [qM_reached_59]
    simp only [jM_reached_121, w0, w1, w2i, w2r, w3, w4, w5_0, w5_1, w5_2, w5_3, w5_4, w5_5, w5_6, w5_7, w5_8, w6_0, w6_1, w7_0, w7_1, w7_2, w7_3, w7_4, w7_5, w8_0, w8_1, w9_0, w9_1, w9_2, w10_0, w10_1, w10_2, w10_3, w10_4, w10_5, w11, w12_0, w12_1, w12_2, w12_3, w12_4, w12_5, w13_0, w13_1, w13_2, w13_3, w13_4, w13_5, w14, w15i, w15r, w16, w17, w18, w19i, w19z, w19l, w20, w21, w22, w23, w24, w25, w26, w27, w28_1, w28_2, w28_3, w28_4, w28_5, w28_6, w29, w30i, w30z, w31, w32, w33, w34, w35, w36, w37_1, w37_2, w37_3, w37_4, w37_5, w37_6, isO_O, set1_0, set1_1i, set1_1r, set1_1n, set1_1l, set1_s, set2_0, set2_1i, set2_1r, set2_1n, set2_1l, set2_s, ldv_i, ldv_l, ldv_r, ldv_s, ldi_i, ldi_s, fK_0, fK_s, gfc_O, fS_0, fS_s, uH_s, uH_n, uH_u, tl_s, tl_n, b1_0, b1_1, ite_true, ite_false, if_true, if_false, List.length_nil, List.length_cons, Nat.zero_le, Nat.zero_add, Nat.reduceAdd, Nat.reduceLeDiff, Nat.reduceLT, Nat.reduceEqDiff, Nat.reduceMul, Nat.add_left_cancel_iff, not_false_eq_true, h39, hc]
  | succ d ih =>
    intro i z hi
    have hc : ¬ nI m ≤ nI i := nI_ge (by omega) (by omega)
    have i8 : i < 8 := by omega
    have hlt := mr1_lt (sh := sh) ha hs i
    by_cases hq : (mr1 sh a s i).testBit i = true ∧ ¬ sh (8 * a + i) ≤ 0
    · obtain ⟨z', e⟩ := ih (i + 1) (some (.int 1)) (by omega)
      refine ⟨z', ?_⟩
      rw [qM_reached_59, ← e, mr1, if_pos hq]
      simp only [qM_reached_97, jM_reached_97, qM_reached_98, jM_reached_98, qM_reached_112, jM_reached_112, qM_reached_113, jM_reached_113, jM_reached_59, w0, w1, w2i, w2r, w3, w4, w5_0, w5_1, w5_2, w5_3, w5_4, w5_5, w5_6, w5_7, w5_8, w6_0, w6_1, w7_0, w7_1, w7_2, w7_3, w7_4, w7_5, w8_0, w8_1, w9_0, w9_1, w9_2, w10_0, w10_1, w10_2, w10_3, w10_4, w10_5, w11, w12_0, w12_1, w12_2, w12_3, w12_4, w12_5, w13_0, w13_1, w13_2, w13_3, w13_4, w13_5, w14, w15i, w15r, w16, w17, w18, w19i, w19z, w19l, w20, w21, w22, w23, w24, w25, w26, w27, w28_1, w28_2, w28_3, w28_4, w28_5, w28_6, w29, w30i, w30z, w31, w32, w33, w34, w35, w36, w37_1, w37_2, w37_3, w37_4, w37_5, w37_6, isO_O, set1_0, set1_1i, set1_1r, set1_1n, set1_1l, set1_s, set2_0, set2_1i, set2_1r, set2_1n, set2_1l, set2_s, ldv_i, ldv_l, ldv_r, ldv_s, ldi_i, ldi_s, fK_0, fK_s, gfc_O, fS_0, fS_s, uH_s, uH_n, uH_u, tl_s, tl_n, b1_0, b1_1, ite_true, ite_false, if_true, if_false, List.length_nil, List.length_cons, Nat.zero_le, Nat.zero_add, Nat.reduceAdd, Nat.reduceLeDiff, Nat.reduceLT, Nat.reduceEqDiff, Nat.reduceMul, Nat.add_left_cancel_iff, not_false_eq_true, h39, h44, hc, bit1 (show mr1 sh a s i < 2 ^ 31 by omega) (show i < 31 by omega), ne_eq, n8a, rIc_n (show 8 * a + i < 64 by omega) (show 64 < 2 ^ 31 by decide), shl1 a (by omega), fa_or, or0, nI_1, hq.1, hq.2, not_true_eq_false, show ¬ (1 : Int32) = 0 by decide]
    · obtain ⟨z', e⟩ := ih (i + 1) (some (.int 0)) (by omega)
      refine ⟨z', ?_⟩
      rw [qM_reached_59, ← e, mr1, if_neg hq]
      simp only [qM_reached_97, jM_reached_97, qM_reached_98, jM_reached_98, qM_reached_112, jM_reached_112, qM_reached_113, jM_reached_113, jM_reached_59, w0, w1, w2i, w2r, w3, w4, w5_0, w5_1, w5_2, w5_3, w5_4, w5_5, w5_6, w5_7, w5_8, w6_0, w6_1, w7_0, w7_1, w7_2, w7_3, w7_4, w7_5, w8_0, w8_1, w9_0, w9_1, w9_2, w10_0, w10_1, w10_2, w10_3, w10_4, w10_5, w11, w12_0, w12_1, w12_2, w12_3, w12_4, w12_5, w13_0, w13_1, w13_2, w13_3, w13_4, w13_5, w14, w15i, w15r, w16, w17, w18, w19i, w19z, w19l, w20, w21, w22, w23, w24, w25, w26, w27, w28_1, w28_2, w28_3, w28_4, w28_5, w28_6, w29, w30i, w30z, w31, w32, w33, w34, w35, w36, w37_1, w37_2, w37_3, w37_4, w37_5, w37_6, isO_O, set1_0, set1_1i, set1_1r, set1_1n, set1_1l, set1_s, set2_0, set2_1i, set2_1r, set2_1n, set2_1l, set2_s, ldv_i, ldv_l, ldv_r, ldv_s, ldi_i, ldi_s, fK_0, fK_s, gfc_O, fS_0, fS_s, uH_s, uH_n, uH_u, tl_s, tl_n, b1_0, b1_1, ite_true, ite_false, if_true, if_false, List.length_nil, List.length_cons, Nat.zero_le, Nat.zero_add, Nat.reduceAdd, Nat.reduceLeDiff, Nat.reduceLT, Nat.reduceEqDiff, Nat.reduceMul, Nat.add_left_cancel_iff, not_false_eq_true, h39, h44, hc, bit1 (show mr1 sh a s i < 2 ^ 31 by omega) (show i < 31 by omega), ne_eq, n8a, rIc_n (show 8 * a + i < 64 by omega) (show 64 < 2 ^ 31 by decide), shl1 a (by omega), fa_or, or0, nI_1]
      by_cases h1 : (mr1 sh a s i).testBit i = true
      · have h2 : sh (8 * a + i) ≤ 0 := Classical.byContradiction fun z => hq ⟨h1, z⟩
        simp [h1, h2]
      · simp [h1]
theorem M_reached_h {s : Nat} {x : Int32} (h39 : h 39 = mO (nI m) pu ye bo ta ax wr be kn pr im) (h44 : h 44 = aI 64 sh) (hm : m ≤ 8) (hs : s < 2 ^ 8) : ∀ (d a : Nat) (y z : Option Value), a + d = m → ∃ y' z' : Option Value, Wp none 98 qM_reached_48 [some (.ref 39), some (.int (nI (mr2 sh m s a))), some (.int x), some (.int (nI a)), y, z] [] h Q = Wp none 98 qM_reached_127 [some (.ref 39), some (.int (nI (mr2 sh m s m))), some (.int x), some (.int (nI m)), y', z'] [] h Q := by
  intro d
  induction d with
  | zero =>
    intro a y z ha
    have e : a = m := by omega
    subst e
    have hc : nI a ≤ nI a := nI_le (Nat.le_refl a) (by omega)
    refine ⟨y, z, ?_⟩
    rw [qM_reached_48]
    simp only [jM_reached_127, w0, w1, w2i, w2r, w3, w4, w5_0, w5_1, w5_2, w5_3, w5_4, w5_5, w5_6, w5_7, w5_8, w6_0, w6_1, w7_0, w7_1, w7_2, w7_3, w7_4, w7_5, w8_0, w8_1, w9_0, w9_1, w9_2, w10_0, w10_1, w10_2, w10_3, w10_4, w10_5, w11, w12_0, w12_1, w12_2, w12_3, w12_4, w12_5, w13_0, w13_1, w13_2, w13_3, w13_4, w13_5, w14, w15i, w15r, w16, w17, w18, w19i, w19z, w19l, w20, w21, w22, w23, w24, w25, w26, w27, w28_1, w28_2, w28_3, w28_4, w28_5, w28_6, w29, w30i, w30z, w31, w32, w33, w34, w35, w36, w37_1, w37_2, w37_3, w37_4, w37_5, w37_6, isO_O, set1_0, set1_1i, set1_1r, set1_1n, set1_1l, set1_s, set2_0, set2_1i, set2_1r, set2_1n, set2_1l, set2_s, ldv_i, ldv_l, ldv_r, ldv_s, ldi_i, ldi_s, fK_0, fK_s, gfc_O, fS_0, fS_s, uH_s, uH_n, uH_u, tl_s, tl_n, b1_0, b1_1, ite_true, ite_false, if_true, if_false, List.length_nil, List.length_cons, Nat.zero_le, Nat.zero_add, Nat.reduceAdd, Nat.reduceLeDiff, Nat.reduceLT, Nat.reduceEqDiff, Nat.reduceMul, Nat.add_left_cancel_iff, not_false_eq_true, h39, hc]
  | succ d ih =>
    intro a y z ha
    have hc : ¬ nI m ≤ nI a := nI_ge (by omega) (by omega)
    obtain ⟨z1, e1⟩ := M_reached_o (Q := Q) (x := x) (z := none) (s := mr2 sh m s a) h39 h44 hm (show a < 8 by omega) (mr2_lt hs a (by omega)) m 0 z (by omega)
    obtain ⟨y', z', e2⟩ := ih (a + 1) (some (.int (nI m))) z1 (by omega)
    refine ⟨y', z', ?_⟩
    rw [qM_reached_48, ← e2]
    simp only [w0, w1, w2i, w2r, w3, w4, w5_0, w5_1, w5_2, w5_3, w5_4, w5_5, w5_6, w5_7, w5_8, w6_0, w6_1, w7_0, w7_1, w7_2, w7_3, w7_4, w7_5, w8_0, w8_1, w9_0, w9_1, w9_2, w10_0, w10_1, w10_2, w10_3, w10_4, w10_5, w11, w12_0, w12_1, w12_2, w12_3, w12_4, w12_5, w13_0, w13_1, w13_2, w13_3, w13_4, w13_5, w14, w15i, w15r, w16, w17, w18, w19i, w19z, w19l, w20, w21, w22, w23, w24, w25, w26, w27, w28_1, w28_2, w28_3, w28_4, w28_5, w28_6, w29, w30i, w30z, w31, w32, w33, w34, w35, w36, w37_1, w37_2, w37_3, w37_4, w37_5, w37_6, isO_O, set1_0, set1_1i, set1_1r, set1_1n, set1_1l, set1_s, set2_0, set2_1i, set2_1r, set2_1n, set2_1l, set2_s, ldv_i, ldv_l, ldv_r, ldv_s, ldi_i, ldi_s, fK_0, fK_s, gfc_O, fS_0, fS_s, uH_s, uH_n, uH_u, tl_s, tl_n, b1_0, b1_1, ite_true, ite_false, if_true, if_false, List.length_nil, List.length_cons, Nat.zero_le, Nat.zero_add, Nat.reduceAdd, Nat.reduceLeDiff, Nat.reduceLT, Nat.reduceEqDiff, Nat.reduceMul, Nat.add_left_cancel_iff, not_false_eq_true, h39, hc]
    rw [show nI 0 = 0 from rfl, show mr1 sh a (mr2 sh m s a) 0 = mr2 sh m s a from rfl] at e1
    rw [e1]
    simp only [qM_reached_121, jM_reached_48, w0, w1, w2i, w2r, w3, w4, w5_0, w5_1, w5_2, w5_3, w5_4, w5_5, w5_6, w5_7, w5_8, w6_0, w6_1, w7_0, w7_1, w7_2, w7_3, w7_4, w7_5, w8_0, w8_1, w9_0, w9_1, w9_2, w10_0, w10_1, w10_2, w10_3, w10_4, w10_5, w11, w12_0, w12_1, w12_2, w12_3, w12_4, w12_5, w13_0, w13_1, w13_2, w13_3, w13_4, w13_5, w14, w15i, w15r, w16, w17, w18, w19i, w19z, w19l, w20, w21, w22, w23, w24, w25, w26, w27, w28_1, w28_2, w28_3, w28_4, w28_5, w28_6, w29, w30i, w30z, w31, w32, w33, w34, w35, w36, w37_1, w37_2, w37_3, w37_4, w37_5, w37_6, isO_O, set1_0, set1_1i, set1_1r, set1_1n, set1_1l, set1_s, set2_0, set2_1i, set2_1r, set2_1n, set2_1l, set2_s, ldv_i, ldv_l, ldv_r, ldv_s, ldi_i, ldi_s, fK_0, fK_s, gfc_O, fS_0, fS_s, uH_s, uH_n, uH_u, tl_s, tl_n, b1_0, b1_1, ite_true, ite_false, if_true, if_false, List.length_nil, List.length_cons, Nat.zero_le, Nat.zero_add, Nat.reduceAdd, Nat.reduceLeDiff, Nat.reduceLT, Nat.reduceEqDiff, Nat.reduceMul, Nat.add_left_cancel_iff, not_false_eq_true, nI_1]
    rfl
theorem M_reached_r {s : Nat} (h39 : h 39 = mO (nI m) pu ye bo ta ax wr be kn pr im) (h44 : h 44 = aI 64 sh) (hm : m ≤ 8) (hs : s < 2 ^ 8) : ∀ (d r : Nat) (x y z : Option Value), r + d = m → Wp none 98 qM_reached_38 [some (.ref 39), some (.int (nI (mr3 sh m s r))), some (.int (nI r)), x, y, z] [] h Q = Q (some (.int (nI (mr3 sh m s m)))) h := by
  intro d
  induction d with
  | zero =>
    intro r x y z hr
    have e : r = m := by omega
    subst e
    have hc : nI r ≤ nI r := nI_le (Nat.le_refl r) (by omega)
    simp only [qM_reached_38, qM_reached_133, jM_reached_133, w0, w1, w2i, w2r, w3, w4, w5_0, w5_1, w5_2, w5_3, w5_4, w5_5, w5_6, w5_7, w5_8, w6_0, w6_1, w7_0, w7_1, w7_2, w7_3, w7_4, w7_5, w8_0, w8_1, w9_0, w9_1, w9_2, w10_0, w10_1, w10_2, w10_3, w10_4, w10_5, w11, w12_0, w12_1, w12_2, w12_3, w12_4, w12_5, w13_0, w13_1, w13_2, w13_3, w13_4, w13_5, w14, w15i, w15r, w16, w17, w18, w19i, w19z, w19l, w20, w21, w22, w23, w24, w25, w26, w27, w28_1, w28_2, w28_3, w28_4, w28_5, w28_6, w29, w30i, w30z, w31, w32, w33, w34, w35, w36, w37_1, w37_2, w37_3, w37_4, w37_5, w37_6, isO_O, set1_0, set1_1i, set1_1r, set1_1n, set1_1l, set1_s, set2_0, set2_1i, set2_1r, set2_1n, set2_1l, set2_s, ldv_i, ldv_l, ldv_r, ldv_s, ldi_i, ldi_s, fK_0, fK_s, gfc_O, fS_0, fS_s, uH_s, uH_n, uH_u, tl_s, tl_n, b1_0, b1_1, ite_true, ite_false, if_true, if_false, List.length_nil, List.length_cons, Nat.zero_le, Nat.zero_add, Nat.reduceAdd, Nat.reduceLeDiff, Nat.reduceLT, Nat.reduceEqDiff, Nat.reduceMul, Nat.add_left_cancel_iff, not_false_eq_true, h39, hc]
  | succ d ih =>
    intro r x y z hr
    have hc : ¬ nI m ≤ nI r := nI_ge (by omega) (by omega)
    obtain ⟨y', z', e1⟩ := M_reached_h (Q := Q) (x := nI r) (s := mr3 sh m s r) h39 h44 hm (mr3_lt hm hs r) m 0 y z (by omega)
    rw [qM_reached_38]
    simp only [w0, w1, w2i, w2r, w3, w4, w5_0, w5_1, w5_2, w5_3, w5_4, w5_5, w5_6, w5_7, w5_8, w6_0, w6_1, w7_0, w7_1, w7_2, w7_3, w7_4, w7_5, w8_0, w8_1, w9_0, w9_1, w9_2, w10_0, w10_1, w10_2, w10_3, w10_4, w10_5, w11, w12_0, w12_1, w12_2, w12_3, w12_4, w12_5, w13_0, w13_1, w13_2, w13_3, w13_4, w13_5, w14, w15i, w15r, w16, w17, w18, w19i, w19z, w19l, w20, w21, w22, w23, w24, w25, w26, w27, w28_1, w28_2, w28_3, w28_4, w28_5, w28_6, w29, w30i, w30z, w31, w32, w33, w34, w35, w36, w37_1, w37_2, w37_3, w37_4, w37_5, w37_6, isO_O, set1_0, set1_1i, set1_1r, set1_1n, set1_1l, set1_s, set2_0, set2_1i, set2_1r, set2_1n, set2_1l, set2_s, ldv_i, ldv_l, ldv_r, ldv_s, ldi_i, ldi_s, fK_0, fK_s, gfc_O, fS_0, fS_s, uH_s, uH_n, uH_u, tl_s, tl_n, b1_0, b1_1, ite_true, ite_false, if_true, if_false, List.length_nil, List.length_cons, Nat.zero_le, Nat.zero_add, Nat.reduceAdd, Nat.reduceLeDiff, Nat.reduceLT, Nat.reduceEqDiff, Nat.reduceMul, Nat.add_left_cancel_iff, not_false_eq_true, h39, hc]
    rw [show nI 0 = 0 from rfl, show mr2 sh m (mr3 sh m s r) 0 = mr3 sh m s r from rfl] at e1
    rw [e1]
    simp only [qM_reached_127, jM_reached_38, w0, w1, w2i, w2r, w3, w4, w5_0, w5_1, w5_2, w5_3, w5_4, w5_5, w5_6, w5_7, w5_8, w6_0, w6_1, w7_0, w7_1, w7_2, w7_3, w7_4, w7_5, w8_0, w8_1, w9_0, w9_1, w9_2, w10_0, w10_1, w10_2, w10_3, w10_4, w10_5, w11, w12_0, w12_1, w12_2, w12_3, w12_4, w12_5, w13_0, w13_1, w13_2, w13_3, w13_4, w13_5, w14, w15i, w15r, w16, w17, w18, w19i, w19z, w19l, w20, w21, w22, w23, w24, w25, w26, w27, w28_1, w28_2, w28_3, w28_4, w28_5, w28_6, w29, w30i, w30z, w31, w32, w33, w34, w35, w36, w37_1, w37_2, w37_3, w37_4, w37_5, w37_6, isO_O, set1_0, set1_1i, set1_1r, set1_1n, set1_1l, set1_s, set2_0, set2_1i, set2_1r, set2_1n, set2_1l, set2_s, ldv_i, ldv_l, ldv_r, ldv_s, ldi_i, ldi_s, fK_0, fK_s, gfc_O, fS_0, fS_s, uH_s, uH_n, uH_u, tl_s, tl_n, b1_0, b1_1, ite_true, ite_false, if_true, if_false, List.length_nil, List.length_cons, Nat.zero_le, Nat.zero_add, Nat.reduceAdd, Nat.reduceLeDiff, Nat.reduceLT, Nat.reduceEqDiff, Nat.reduceMul, Nat.add_left_cancel_iff, not_false_eq_true, nI_1]
    exact ih (r + 1) _ _ _ (by omega)
theorem M_reached (h39 : h 39 = mO (nI m) pu ye (nI b) ta ax wr be kn pr im) (h40 : h 40 = aI 8 ki) (h44 : h 44 = aI 64 sh) (hb : b < 256) (hm : m ≤ 8) : WpM 98 [.ref 39] h Q = Q (some (.int (nI (rcM ki sh b m)))) h := by
  rw [eM_reached]
  simp only [qM_reached_0, w0, w1, w2i, w2r, w3, w4, w5_0, w5_1, w5_2, w5_3, w5_4, w5_5, w5_6, w5_7, w5_8, w6_0, w6_1, w7_0, w7_1, w7_2, w7_3, w7_4, w7_5, w8_0, w8_1, w9_0, w9_1, w9_2, w10_0, w10_1, w10_2, w10_3, w10_4, w10_5, w11, w12_0, w12_1, w12_2, w12_3, w12_4, w12_5, w13_0, w13_1, w13_2, w13_3, w13_4, w13_5, w14, w15i, w15r, w16, w17, w18, w19i, w19z, w19l, w20, w21, w22, w23, w24, w25, w26, w27, w28_1, w28_2, w28_3, w28_4, w28_5, w28_6, w29, w30i, w30z, w31, w32, w33, w34, w35, w36, w37_1, w37_2, w37_3, w37_4, w37_5, w37_6, isO_O, set1_0, set1_1i, set1_1r, set1_1n, set1_1l, set1_s, set2_0, set2_1i, set2_1r, set2_1n, set2_1l, set2_s, ldv_i, ldv_l, ldv_r, ldv_s, ldi_i, ldi_s, fK_0, fK_s, gfc_O, fS_0, fS_s, uH_s, uH_n, uH_u, tl_s, tl_n, b1_0, b1_1, ite_true, ite_false, if_true, if_false, List.length_nil, List.length_cons, Nat.zero_le, Nat.zero_add, Nat.reduceAdd, Nat.reduceLeDiff, Nat.reduceLT, Nat.reduceEqDiff, Nat.reduceMul, Nat.add_left_cancel_iff, not_false_eq_true]
  have e := M_reached_1 (Q := Q) (x := none) (y := none) (z := none) h39 h40 hb hm m 0 (by omega)
  rw [show nI (enc (fxM ki b) 0) = 0 from rfl, show nI 0 = 0 from rfl] at e
  rw [e]
  simp only [qM_reached_36, w0, w1, w2i, w2r, w3, w4, w5_0, w5_1, w5_2, w5_3, w5_4, w5_5, w5_6, w5_7, w5_8, w6_0, w6_1, w7_0, w7_1, w7_2, w7_3, w7_4, w7_5, w8_0, w8_1, w9_0, w9_1, w9_2, w10_0, w10_1, w10_2, w10_3, w10_4, w10_5, w11, w12_0, w12_1, w12_2, w12_3, w12_4, w12_5, w13_0, w13_1, w13_2, w13_3, w13_4, w13_5, w14, w15i, w15r, w16, w17, w18, w19i, w19z, w19l, w20, w21, w22, w23, w24, w25, w26, w27, w28_1, w28_2, w28_3, w28_4, w28_5, w28_6, w29, w30i, w30z, w31, w32, w33, w34, w35, w36, w37_1, w37_2, w37_3, w37_4, w37_5, w37_6, isO_O, set1_0, set1_1i, set1_1r, set1_1n, set1_1l, set1_s, set2_0, set2_1i, set2_1r, set2_1n, set2_1l, set2_s, ldv_i, ldv_l, ldv_r, ldv_s, ldi_i, ldi_s, fK_0, fK_s, gfc_O, fS_0, fS_s, uH_s, uH_n, uH_u, tl_s, tl_n, b1_0, b1_1, ite_true, ite_false, if_true, if_false, List.length_nil, List.length_cons, Nat.zero_le, Nat.zero_add, Nat.reduceAdd, Nat.reduceLeDiff, Nat.reduceLT, Nat.reduceEqDiff, Nat.reduceMul, Nat.add_left_cancel_iff, not_false_eq_true]
  exact M_reached_r h39 h44 hm (encM_lt _ hm) m 0 _ _ _ (by omega)
theorem M_goesOn_in {q a : Nat} {w : Int32} {x : Option Value} (h39 : h 39 = mO (nI m) pu ye bo ta ax wr be kn pr im) (h44 : h 44 = aI 64 sh) (hq : h q = aI 8 f) (hm : m ≤ 8) (ha : a < 8) : ∀ (d i : Nat), i + d = m → Wp none 122 qM_goesOn_22 [some (.ref 39), some (.ref q), some (.int (nI a)), some (.int w), some (.int (tg sh f a i)), some (.int (nI i)), x] [] h Q = Wp none 122 qM_goesOn_59 [some (.ref 39), some (.ref q), some (.int (nI a)), some (.int w), some (.int (tg sh f a m)), some (.int (nI m)), x] [] h Q := by
  intro d
  induction d with
  | zero =>
    intro i hi
    have e : i = m := by omega
    subst e
    have hc : nI i ≤ nI i := nI_le (Nat.le_refl i) (by omega)
    rw [qM_goesOn_22]
    simp only [jM_goesOn_59, w0, w1, w2i, w2r, w3, w4, w5_0, w5_1, w5_2, w5_3, w5_4, w5_5, w5_6, w5_7, w5_8, w6_0, w6_1, w7_0, w7_1, w7_2, w7_3, w7_4, w7_5, w8_0, w8_1, w9_0, w9_1, w9_2, w10_0, w10_1, w10_2, w10_3, w10_4, w10_5, w11, w12_0, w12_1, w12_2, w12_3, w12_4, w12_5, w13_0, w13_1, w13_2, w13_3, w13_4, w13_5, w14, w15i, w15r, w16, w17, w18, w19i, w19z, w19l, w20, w21, w22, w23, w24, w25, w26, w27, w28_1, w28_2, w28_3, w28_4, w28_5, w28_6, w29, w30i, w30z, w31, w32, w33, w34, w35, w36, w37_1, w37_2, w37_3, w37_4, w37_5, w37_6, isO_O, set1_0, set1_1i, set1_1r, set1_1n, set1_1l, set1_s, set2_0, set2_1i, set2_1r, set2_1n, set2_1l, set2_s, ldv_i, ldv_l, ldv_r, ldv_s, ldi_i, ldi_s, fK_0, fK_s, gfc_O, fS_0, fS_s, uH_s, uH_n, uH_u, tl_s, tl_n, b1_0, b1_1, ite_true, ite_false, if_true, if_false, List.length_nil, List.length_cons, Nat.zero_le, Nat.zero_add, Nat.reduceAdd, Nat.reduceLeDiff, Nat.reduceLT, Nat.reduceEqDiff, Nat.reduceMul, Nat.add_left_cancel_iff, not_false_eq_true, h39, hc]
  | succ d ih =>
    intro i hi
    have hc : ¬ nI m ≤ nI i := nI_ge (by omega) (by omega)
    rw [qM_goesOn_22]
    simp only [jM_goesOn_22, w0, w1, w2i, w2r, w3, w4, w5_0, w5_1, w5_2, w5_3, w5_4, w5_5, w5_6, w5_7, w5_8, w6_0, w6_1, w7_0, w7_1, w7_2, w7_3, w7_4, w7_5, w8_0, w8_1, w9_0, w9_1, w9_2, w10_0, w10_1, w10_2, w10_3, w10_4, w10_5, w11, w12_0, w12_1, w12_2, w12_3, w12_4, w12_5, w13_0, w13_1, w13_2, w13_3, w13_4, w13_5, w14, w15i, w15r, w16, w17, w18, w19i, w19z, w19l, w20, w21, w22, w23, w24, w25, w26, w27, w28_1, w28_2, w28_3, w28_4, w28_5, w28_6, w29, w30i, w30z, w31, w32, w33, w34, w35, w36, w37_1, w37_2, w37_3, w37_4, w37_5, w37_6, isO_O, set1_0, set1_1i, set1_1r, set1_1n, set1_1l, set1_s, set2_0, set2_1i, set2_1r, set2_1n, set2_1l, set2_s, ldv_i, ldv_l, ldv_r, ldv_s, ldi_i, ldi_s, fK_0, fK_s, gfc_O, fS_0, fS_s, uH_s, uH_n, uH_u, tl_s, tl_n, b1_0, b1_1, ite_true, ite_false, if_true, if_false, List.length_nil, List.length_cons, Nat.zero_le, Nat.zero_add, Nat.reduceAdd, Nat.reduceLeDiff, Nat.reduceLT, Nat.reduceEqDiff, Nat.reduceMul, Nat.add_left_cancel_iff, not_false_eq_true, h39, h44, hq, hc, n8a, rIc_n (show 8 * a + i < 64 by omega) (show 64 < 2 ^ 31 by decide), rIc_n (show i < 8 by omega) (show 8 < 2 ^ 31 by decide), nI_1]
    exact ih (i + 1) (by omega)
theorem M_goesOn_81 {q a : Nat} {w y v : Int32} {x3 x4 : Option Value} (h39 : h 39 = mO ho pu ye bo ta ax wr be kn pr im) (h40 : h 40 = aI 8 ki) (h43 : h 43 = aI 8 ca) (h52 : h 52 = aI 8 th) (ha : a < 8) : ∃ x4' : Option Value, Wp none 122 qM_goesOn_81 [some (.ref 39), some (.ref q), some (.int (nI a)), some (.int w), some (.int y), x3, x4] [.int v] h Q = Wp none 122 qM_goesOn_2 [some (.ref 39), some (.ref q), some (.int (nI (a + 1))), some (.int w), some (.int y), some (.int v), x4'] [] (uH h 52 (aI 8 (upd th a (if ki a = 2 ∧ 0 < w ∧ ca a < v then ca a else v)))) Q := by
  by_cases k : ki a = 2 ∧ 0 < w ∧ ca a < v
  · obtain ⟨k1, k2, k3⟩ := id k
    have k2' : ¬ w ≤ 0 := (fa_of_lt k2).2.1
    have k3' : ¬ v ≤ ca a := (fa_of_lt k3).2.1
    refine ⟨some (.int 1), ?_⟩
    rw [if_pos k, qM_goesOn_81]
    simp only [qM_goesOn_112, jM_goesOn_112, qM_goesOn_113, jM_goesOn_113, qM_goesOn_134, jM_goesOn_134, qM_goesOn_136, jM_goesOn_136, jM_goesOn_2, w0, w1, w2i, w2r, w3, w4, w5_0, w5_1, w5_2, w5_3, w5_4, w5_5, w5_6, w5_7, w5_8, w6_0, w6_1, w7_0, w7_1, w7_2, w7_3, w7_4, w7_5, w8_0, w8_1, w9_0, w9_1, w9_2, w10_0, w10_1, w10_2, w10_3, w10_4, w10_5, w11, w12_0, w12_1, w12_2, w12_3, w12_4, w12_5, w13_0, w13_1, w13_2, w13_3, w13_4, w13_5, w14, w15i, w15r, w16, w17, w18, w19i, w19z, w19l, w20, w21, w22, w23, w24, w25, w26, w27, w28_1, w28_2, w28_3, w28_4, w28_5, w28_6, w29, w30i, w30z, w31, w32, w33, w34, w35, w36, w37_1, w37_2, w37_3, w37_4, w37_5, w37_6, isO_O, set1_0, set1_1i, set1_1r, set1_1n, set1_1l, set1_s, set2_0, set2_1i, set2_1r, set2_1n, set2_1l, set2_s, ldv_i, ldv_l, ldv_r, ldv_s, ldi_i, ldi_s, fK_0, fK_s, gfc_O, fS_0, fS_s, uH_s, uH_n, uH_u, tl_s, tl_n, b1_0, b1_1, ite_true, ite_false, if_true, if_false, List.length_nil, List.length_cons, Nat.zero_le, Nat.zero_add, Nat.reduceAdd, Nat.reduceLeDiff, Nat.reduceLT, Nat.reduceEqDiff, Nat.reduceMul, Nat.add_left_cancel_iff, not_false_eq_true, h39, h40, h43, h52, ne_eq, rIc_n ha (show 8 < 2 ^ 31 by decide), wIc_n ha (show 8 < 2 ^ 31 by decide), nI_1, k1, k2', k3', not_true_eq_false, show ¬ (1 : Int32) = 0 by decide]
  · refine ⟨some (.int 0), ?_⟩
    rw [if_neg k, qM_goesOn_81]
    simp only [qM_goesOn_112, jM_goesOn_112, qM_goesOn_113, jM_goesOn_113, qM_goesOn_134, jM_goesOn_134, qM_goesOn_136, jM_goesOn_136, jM_goesOn_2, w0, w1, w2i, w2r, w3, w4, w5_0, w5_1, w5_2, w5_3, w5_4, w5_5, w5_6, w5_7, w5_8, w6_0, w6_1, w7_0, w7_1, w7_2, w7_3, w7_4, w7_5, w8_0, w8_1, w9_0, w9_1, w9_2, w10_0, w10_1, w10_2, w10_3, w10_4, w10_5, w11, w12_0, w12_1, w12_2, w12_3, w12_4, w12_5, w13_0, w13_1, w13_2, w13_3, w13_4, w13_5, w14, w15i, w15r, w16, w17, w18, w19i, w19z, w19l, w20, w21, w22, w23, w24, w25, w26, w27, w28_1, w28_2, w28_3, w28_4, w28_5, w28_6, w29, w30i, w30z, w31, w32, w33, w34, w35, w36, w37_1, w37_2, w37_3, w37_4, w37_5, w37_6, isO_O, set1_0, set1_1i, set1_1r, set1_1n, set1_1l, set1_s, set2_0, set2_1i, set2_1r, set2_1n, set2_1l, set2_s, ldv_i, ldv_l, ldv_r, ldv_s, ldi_i, ldi_s, fK_0, fK_s, gfc_O, fS_0, fS_s, uH_s, uH_n, uH_u, tl_s, tl_n, b1_0, b1_1, ite_true, ite_false, if_true, if_false, List.length_nil, List.length_cons, Nat.zero_le, Nat.zero_add, Nat.reduceAdd, Nat.reduceLeDiff, Nat.reduceLT, Nat.reduceEqDiff, Nat.reduceMul, Nat.add_left_cancel_iff, not_false_eq_true, h39, h40, h43, h52, ne_eq, rIc_n ha (show 8 < 2 ^ 31 by decide), wIc_n ha (show 8 < 2 ^ 31 by decide), nI_1]
    by_cases k1 : ki a = 2
    · rw [if_neg (fun z => z k1)]
      by_cases k2 : w ≤ 0
      · rw [if_pos k2]
      · rw [if_neg k2]
        have k3 : v ≤ ca a := Classical.byContradiction fun z => k ⟨k1, fa_of_nle k2, fa_of_nle z⟩
        rw [if_pos k3]
    · rw [if_pos k1]
theorem M_goesOn_out {q : Nat} (hq52 : ¬ q = 52) (hb : b < 256) (hm : m ≤ 8) : ∀ (d a : Nat) (h : AH) (x1 x2 x3 x4 : Option Value), a + d = m → h 39 = mO (nI m) pu ye (nI b) ta ax wr be kn pr im → h 40 = aI 8 ki → h 43 = aI 8 ca → h 44 = aI 64 sh → h q = aI 8 f → h 52 = aI 8 (goA sh f ki ca b m th a) → Wp none 122 qM_goesOn_2 [some (.ref 39), some (.ref q), some (.int (nI a)), x1, x2, x3, x4] [] h Q = Q none (uH h 52 (aI 8 (goA sh f ki ca b m th m))) := by
  intro d
  induction d with
  | zero =>
    intro a h x1 x2 x3 x4 ha h39 h40 h43 h44 hq h52
    have e : a = m := by omega
    subst e
    have hc : nI a ≤ nI a := nI_le (Nat.le_refl a) (by omega)
    simp only [qM_goesOn_2, qM_goesOn_143, jM_goesOn_143, w0, w1, w2i, w2r, w3, w4, w5_0, w5_1, w5_2, w5_3, w5_4, w5_5, w5_6, w5_7, w5_8, w6_0, w6_1, w7_0, w7_1, w7_2, w7_3, w7_4, w7_5, w8_0, w8_1, w9_0, w9_1, w9_2, w10_0, w10_1, w10_2, w10_3, w10_4, w10_5, w11, w12_0, w12_1, w12_2, w12_3, w12_4, w12_5, w13_0, w13_1, w13_2, w13_3, w13_4, w13_5, w14, w15i, w15r, w16, w17, w18, w19i, w19z, w19l, w20, w21, w22, w23, w24, w25, w26, w27, w28_1, w28_2, w28_3, w28_4, w28_5, w28_6, w29, w30i, w30z, w31, w32, w33, w34, w35, w36, w37_1, w37_2, w37_3, w37_4, w37_5, w37_6, isO_O, set1_0, set1_1i, set1_1r, set1_1n, set1_1l, set1_s, set2_0, set2_1i, set2_1r, set2_1n, set2_1l, set2_s, ldv_i, ldv_l, ldv_r, ldv_s, ldi_i, ldi_s, fK_0, fK_s, gfc_O, fS_0, fS_s, uH_s, uH_n, uH_u, tl_s, tl_n, b1_0, b1_1, ite_true, ite_false, if_true, if_false, List.length_nil, List.length_cons, Nat.zero_le, Nat.zero_add, Nat.reduceAdd, Nat.reduceLeDiff, Nat.reduceLT, Nat.reduceEqDiff, Nat.reduceMul, Nat.add_left_cancel_iff, not_false_eq_true, h39, hc]
    rw [uH_id h h52]
  | succ d ih =>
    intro a h x1 x2 x3 x4 ha h39 h40 h43 h44 hq h52
    have hc : ¬ nI m ≤ nI a := nI_ge (by omega) (by omega)
    have a8 : a < 8 := by omega
    have e1 := M_goesOn_in (Q := Q) (w := wt sh a m) (x := x4) h39 h44 hq hm a8 m 0 (by omega)
    rw [show nI 0 = 0 from rfl, show tg sh f a 0 = 0 from rfl] at e1
    have key : ∀ (x3 x4 : Option Value) (v : Int32), (if ki a = 2 ∧ 0 < wt sh a m ∧ ca a < v then ca a else v) = goF sh f ki ca b m a → Wp none 122 qM_goesOn_81 [some (.ref 39), some (.ref q), some (.int (nI a)), some (.int (wt sh a m)), some (.int (tg sh f a m)), x3, x4] [.int v] h Q = Q none (uH h 52 (aI 8 (goA sh f ki ca b m th m))) := by
      intro x3 x4 v hv
      obtain ⟨x4', e⟩ := M_goesOn_81 (Q := Q) (q := q) (w := wt sh a m) (y := tg sh f a m) (v := v) (x3 := x3) (x4 := x4) h39 h40 h43 h52 a8
      rw [e, hv, ih (a + 1) _ _ _ _ _ (by omega) (by rw [uH_n _ _ (by decide)]; exact h39) (by rw [uH_n _ _ (by decide)]; exact h40) (by rw [uH_n _ _ (by decide)]; exact h43) (by rw [uH_n _ _ (by decide)]; exact h44) (by rw [uH_n _ _ hq52]; exact hq) (by rw [uH_s, goA]), uH_u]
    rw [qM_goesOn_2]
    simp only [w0, w1, w2i, w2r, w3, w4, w5_0, w5_1, w5_2, w5_3, w5_4, w5_5, w5_6, w5_7, w5_8, w6_0, w6_1, w7_0, w7_1, w7_2, w7_3, w7_4, w7_5, w8_0, w8_1, w9_0, w9_1, w9_2, w10_0, w10_1, w10_2, w10_3, w10_4, w10_5, w11, w12_0, w12_1, w12_2, w12_3, w12_4, w12_5, w13_0, w13_1, w13_2, w13_3, w13_4, w13_5, w14, w15i, w15r, w16, w17, w18, w19i, w19z, w19l, w20, w21, w22, w23, w24, w25, w26, w27, w28_1, w28_2, w28_3, w28_4, w28_5, w28_6, w29, w30i, w30z, w31, w32, w33, w34, w35, w36, w37_1, w37_2, w37_3, w37_4, w37_5, w37_6, isO_O, set1_0, set1_1i, set1_1r, set1_1n, set1_1l, set1_s, set2_0, set2_1i, set2_1r, set2_1n, set2_1l, set2_s, ldv_i, ldv_l, ldv_r, ldv_s, ldi_i, ldi_s, fK_0, fK_s, gfc_O, fS_0, fS_s, uH_s, uH_n, uH_u, tl_s, tl_n, b1_0, b1_1, ite_true, ite_false, if_true, if_false, List.length_nil, List.length_cons, Nat.zero_le, Nat.zero_add, Nat.reduceAdd, Nat.reduceLeDiff, Nat.reduceLT, Nat.reduceEqDiff, Nat.reduceMul, Nat.add_left_cancel_iff, not_false_eq_true, h39, hc, M_weight h39 h44 hm a8]
    rw [e1]
    simp only [qM_goesOn_59, qM_goesOn_71, jM_goesOn_71, qM_goesOn_77, jM_goesOn_77, jM_goesOn_81, w0, w1, w2i, w2r, w3, w4, w5_0, w5_1, w5_2, w5_3, w5_4, w5_5, w5_6, w5_7, w5_8, w6_0, w6_1, w7_0, w7_1, w7_2, w7_3, w7_4, w7_5, w8_0, w8_1, w9_0, w9_1, w9_2, w10_0, w10_1, w10_2, w10_3, w10_4, w10_5, w11, w12_0, w12_1, w12_2, w12_3, w12_4, w12_5, w13_0, w13_1, w13_2, w13_3, w13_4, w13_5, w14, w15i, w15r, w16, w17, w18, w19i, w19z, w19l, w20, w21, w22, w23, w24, w25, w26, w27, w28_1, w28_2, w28_3, w28_4, w28_5, w28_6, w29, w30i, w30z, w31, w32, w33, w34, w35, w36, w37_1, w37_2, w37_3, w37_4, w37_5, w37_6, isO_O, set1_0, set1_1i, set1_1r, set1_1n, set1_1l, set1_s, set2_0, set2_1i, set2_1r, set2_1n, set2_1l, set2_s, ldv_i, ldv_l, ldv_r, ldv_s, ldi_i, ldi_s, fK_0, fK_s, gfc_O, fS_0, fS_s, uH_s, uH_n, uH_u, tl_s, tl_n, b1_0, b1_1, ite_true, ite_false, if_true, if_false, List.length_nil, List.length_cons, Nat.zero_le, Nat.zero_add, Nat.reduceAdd, Nat.reduceLeDiff, Nat.reduceLT, Nat.reduceEqDiff, Nat.reduceMul, Nat.add_left_cancel_iff, not_false_eq_true, h39, hq, M_isFixed h39 h40 hb a8, z01, ne_eq, rIc_n a8 (show 8 < 2 ^ 31 by decide)]
    by_cases hf : (ki a = 1 ∨ ki a = 3 ∨ b.testBit a = true) ∨ wt sh a m = 0
    · have eF : (if ki a = 2 ∧ 0 < wt sh a m ∧ ca a < f a then ca a else f a) = goF sh f ki ca b m a := by unfold goF; rw [if_pos hf]
      by_cases h1 : ki a = 1 ∨ ki a = 3 ∨ b.testBit a = true
      · rw [if_pos (fun z => z h1)]
        exact key _ _ _ eF
      · have h2 : wt sh a m = 0 := hf.resolve_left h1
        rw [if_neg (fun z => z h1), if_neg (fun z => z h2)]
        exact key _ _ _ eF
    · have h1 : ¬ (ki a = 1 ∨ ki a = 3 ∨ b.testBit a = true) := fun z => hf (Or.inl z)
      have h2 : ¬ wt sh a m = 0 := fun z => hf (Or.inr z)
      have eF : (if ki a = 2 ∧ 0 < wt sh a m ∧ ca a < tg sh f a m / wt sh a m then ca a else tg sh f a m / wt sh a m) = goF sh f ki ca b m a := by unfold goF; rw [if_neg hf]
      rw [if_neg (fun z => z h1), if_pos h2, if_neg h2]
      exact key _ _ _ eF
theorem M_goesOn {q : Nat} (hq52 : ¬ q = 52) (h39 : h 39 = mO (nI m) pu ye (nI b) ta ax wr be kn pr im) (h40 : h 40 = aI 8 ki) (h43 : h 43 = aI 8 ca) (h44 : h 44 = aI 64 sh) (hq : h q = aI 8 f) (h52 : h 52 = aI 8 th) (hb : b < 256) (hm : m ≤ 8) : WpM 122 [.ref 39, .ref q] h Q = Q none (uH h 52 (aI 8 (goA sh f ki ca b m th m))) := by
  rw [eM_goesOn]
  simp only [qM_goesOn_0, w0, w1, w2i, w2r, w3, w4, w5_0, w5_1, w5_2, w5_3, w5_4, w5_5, w5_6, w5_7, w5_8, w6_0, w6_1, w7_0, w7_1, w7_2, w7_3, w7_4, w7_5, w8_0, w8_1, w9_0, w9_1, w9_2, w10_0, w10_1, w10_2, w10_3, w10_4, w10_5, w11, w12_0, w12_1, w12_2, w12_3, w12_4, w12_5, w13_0, w13_1, w13_2, w13_3, w13_4, w13_5, w14, w15i, w15r, w16, w17, w18, w19i, w19z, w19l, w20, w21, w22, w23, w24, w25, w26, w27, w28_1, w28_2, w28_3, w28_4, w28_5, w28_6, w29, w30i, w30z, w31, w32, w33, w34, w35, w36, w37_1, w37_2, w37_3, w37_4, w37_5, w37_6, isO_O, set1_0, set1_1i, set1_1r, set1_1n, set1_1l, set1_s, set2_0, set2_1i, set2_1r, set2_1n, set2_1l, set2_s, ldv_i, ldv_l, ldv_r, ldv_s, ldi_i, ldi_s, fK_0, fK_s, gfc_O, fS_0, fS_s, uH_s, uH_n, uH_u, tl_s, tl_n, b1_0, b1_1, ite_true, ite_false, if_true, if_false, List.length_nil, List.length_cons, Nat.zero_le, Nat.zero_add, Nat.reduceAdd, Nat.reduceLeDiff, Nat.reduceLT, Nat.reduceEqDiff, Nat.reduceMul, Nat.add_left_cancel_iff, not_false_eq_true]
  exact M_goesOn_out hq52 hb hm m 0 h _ _ _ _ (by omega) h39 h40 h43 h44 hq h52
end MODEL

/-! Town: years, copies, the reached set -/
def tg (sh ah : Nat → Int32) (a : Nat) : Nat → Int32
  | 0 => 0
  | o + 1 => tg sh ah a o + sh (8 * a + o) * ah o
/-- what a house that is not fixed asks after a year -/
def aft (sh ah ki ca : Nat → Int32) (n a : Nat) : Int32 := if wt sh a n = 0 then ah a else if ki a = 2 then (if ca a < tg sh ah a n / wt sh a n then ca a else tg sh ah a n / wt sh a n) else tg sh ah a n / wt sh a n
/-- the askings when the first i houses have gone on -/
def yF (sh ah ki ca : Nat → Int32) (n : Nat) (as : Nat → Int32) : Nat → Nat → Int32
  | 0 => as
  | i + 1 => if ki i = 1 ∨ ki i = 3 then yF sh ah ki ca n as i else upd (yF sh ah ki ca n as i) i (aft sh ah ki ca n i)
def yC (sh ah ki ca : Nat → Int32) (n : Nat) (as : Nat → Int32) : Nat → Int32
  | 0 => 0
  | i + 1 => if yF sh ah ki ca n as (i + 1) i = ah i then yC sh ah ki ca n as i else yC sh ah ki ca n as i + 1
theorem cp8 {f g : Nat → Int32} {K : AC → Prop} : cpc (aI 8 f) (aI 8 g) 0 0 8 K = K (aI 8 (va_cpy f g 0 0 8)) := cpc_I (i := 0) (j := 0) (k := 8) (by decide) (by decide) (by decide) (by decide)
theorem cp64 {f g : Nat → Int32} {K : AC → Prop} : cpc (aI 64 f) (aI 64 g) 0 0 64 K = K (aI 64 (va_cpy f g 0 0 64)) := cpc_I (i := 0) (j := 0) (k := 64) (by decide) (by decide) (by decide) (by decide)
def andn (a b : Nat) : Nat := a ^^^ (a &&& b)
theorem andn_bit (a b i : Nat) : (andn a b).testBit i = (a.testBit i && !b.testBit i) := by
  unfold andn
  rw [Nat.testBit_xor, Nat.testBit_and]
  cases a.testBit i <;> cases b.testBit i <;> rfl
theorem andn_lt {a b k : Nat} (ha : a < 2 ^ k) : andn a b < 2 ^ k := by
  unfold andn
  exact Nat.xor_lt_two_pow ha (Nat.lt_of_le_of_lt Nat.and_le_left ha)
theorem nI_andn (a b : Nat) : nI a &&& (nI b ^^^ (-1)) = nI (andn a b) := by
  have h1 : nI a &&& (nI b ^^^ (-1)) = nI a ^^^ (nI a &&& nI b) := by
    apply Int32.toBitVec_inj.mp
    simp only [Int32.toBitVec_and, Int32.toBitVec_xor]
    generalize (nI a).toBitVec = x
    generalize (nI b).toBitVec = y
    rw [show (-1 : Int32).toBitVec = BitVec.allOnes 32 from rfl]
    apply BitVec.eq_of_getLsbD_eq
    intro i hi
    simp only [BitVec.getLsbD_and, BitVec.getLsbD_xor, BitVec.getLsbD_allOnes]
    cases x.getLsbD i <;> cases y.getLsbD i <;> simp [hi]
  rw [h1, fa_and, fb_xorI]
  rfl
/-- what is beside the houses of a set, of the first i -/
def bI (bes : Nat → Nat) (last : Nat) : Nat → Nat
  | 0 => 0
  | i + 1 => if last.testBit i = true then bI bes last i ||| bes i else bI bes last i
def rS (bes : Nat → Nat) (n : Nat) : Nat → Nat → Nat → Nat
  | 0, set, _ => set
  | d + 1, set, last => if last = 0 then set else rS bes n d (set ||| andn (bI bes last n) set) (andn (bI bes last n) set)
theorem bI_lt {bes : Nat → Nat} {last k : Nat} (hb : ∀ a, bes a < 2 ^ k) : ∀ n, bI bes last n < 2 ^ k
  | 0 => Nat.two_pow_pos k
  | n + 1 => by
    have ih := bI_lt (last := last) hb n
    unfold bI
    split
    · exact Nat.or_lt_two_pow ih (hb n)
    · exact ih
theorem pfc_3 {k : Nat} {v0 v1 v2 v3 v4 v5 v6 v7 v8 w : Value} {K : AC → Prop} (hk : k < 9) : pfc (aO 3 [v0, v1, v2, v3, v4, v5, v6, v7, v8]) 3 k w K = K (aO 3 (fS w [v0, v1, v2, v3, v4, v5, v6, v7, v8] k)) := pfc_O hk
section TOWN2
variable {h : AH} {Q : Option Value → AH → Prop} {t : Nat} {n pu ye : Int32} {ki as ow ca sh ah : Nat → Int32}
theorem T_askingAfter_loop {m a : Nat} {w : Int32} (h0 : h t = tO t (nI m) pu ye) (h5 : h (t + 5) = aI 64 sh) (h6 : h (t + 6) = aI 8 ah) (hm : m ≤ 8) (ha : a < 8) : ∀ (d i : Nat), i + d = m → Wp none 39 qT_askingAfter_22 [some (.ref t), some (.int (nI a)), some (.int w), some (.int (tg sh ah a i)), some (.int (nI i))] [] h Q = Wp none 39 qT_askingAfter_55 [some (.ref t), some (.int (nI a)), some (.int w), some (.int (tg sh ah a m)), some (.int (nI m))] [] h Q := by
  intro d
  induction d with
  | zero =>
    intro i hi
    have e : i = m := by omega
    subst e
    have hc : nI i ≤ nI i := nI_le (Nat.le_refl i) (by omega)
    rw [qT_askingAfter_22]
    simp only [jT_askingAfter_55, w0, w1, w2i, w2r, w3, w4, w5_0, w5_1, w5_2, w5_3, w5_4, w5_5, w5_6, w5_7, w5_8, w6_0, w6_1, w7_0, w7_1, w7_2, w7_3, w7_4, w7_5, w8_0, w8_1, w9_0, w9_1, w9_2, w10_0, w10_1, w10_2, w10_3, w10_4, w10_5, w11, w12_0, w12_1, w12_2, w12_3, w12_4, w12_5, w13_0, w13_1, w13_2, w13_3, w13_4, w13_5, w14, w15i, w15r, w16, w17, w18, w19i, w19z, w19l, w20, w21, w22, w23, w24, w25, w26, w27, w28_1, w28_2, w28_3, w28_4, w28_5, w28_6, w29, w30i, w30z, w31, w32, w33, w34, w35, w36, w37_1, w37_2, w37_3, w37_4, w37_5, w37_6, isO_O, set1_0, set1_1i, set1_1r, set1_1n, set1_1l, set1_s, set2_0, set2_1i, set2_1r, set2_1n, set2_1l, set2_s, ldv_i, ldv_l, ldv_r, ldv_s, ldi_i, ldi_s, fK_0, fK_s, gfc_O, fS_0, fS_s, uH_s, uH_n, uH_u, tl_s, tl_n, b1_0, b1_1, ite_true, ite_false, if_true, if_false, List.length_nil, List.length_cons, Nat.zero_le, Nat.zero_add, Nat.reduceAdd, Nat.reduceLeDiff, Nat.reduceLT, Nat.reduceEqDiff, Nat.reduceMul, Nat.add_left_cancel_iff, not_false_eq_true, h0, hc]
  | succ d ih =>
    intro i hi
    have hc : ¬ nI m ≤ nI i := nI_ge (by omega) (by omega)
    rw [qT_askingAfter_22]
    simp only [w0, w1, w2i, w2r, w3, w4, w5_0, w5_1, w5_2, w5_3, w5_4, w5_5, w5_6, w5_7, w5_8, w6_0, w6_1, w7_0, w7_1, w7_2, w7_3, w7_4, w7_5, w8_0, w8_1, w9_0, w9_1, w9_2, w10_0, w10_1, w10_2, w10_3, w10_4, w10_5, w11, w12_0, w12_1, w12_2, w12_3, w12_4, w12_5, w13_0, w13_1, w13_2, w13_3, w13_4, w13_5, w14, w15i, w15r, w16, w17, w18, w19i, w19z, w19l, w20, w21, w22, w23, w24, w25, w26, w27, w28_1, w28_2, w28_3, w28_4, w28_5, w28_6, w29, w30i, w30z, w31, w32, w33, w34, w35, w36, w37_1, w37_2, w37_3, w37_4, w37_5, w37_6, isO_O, set1_0, set1_1i, set1_1r, set1_1n, set1_1l, set1_s, set2_0, set2_1i, set2_1r, set2_1n, set2_1l, set2_s, ldv_i, ldv_l, ldv_r, ldv_s, ldi_i, ldi_s, fK_0, fK_s, gfc_O, fS_0, fS_s, uH_s, uH_n, uH_u, tl_s, tl_n, b1_0, b1_1, ite_true, ite_false, if_true, if_false, List.length_nil, List.length_cons, Nat.zero_le, Nat.zero_add, Nat.reduceAdd, Nat.reduceLeDiff, Nat.reduceLT, Nat.reduceEqDiff, Nat.reduceMul, Nat.add_left_cancel_iff, not_false_eq_true, h0, h6, hc, jT_askingAfter_22, T_shareOf h0 h5 ha (show i < 8 by omega), nI_1, rIc_n (show i < 8 by omega) (show 8 < 2 ^ 31 by decide)]
    exact ih (i + 1) (by omega)
theorem T_askingAfter {m a : Nat} (h0 : h t = tO t (nI m) pu ye) (h1 : h (t + 1) = aI 8 ki) (h4 : h (t + 4) = aI 8 ca) (h5 : h (t + 5) = aI 64 sh) (h6 : h (t + 6) = aI 8 ah) (hm : m ≤ 8) (ha : a < 8) : WpM 39 [.ref t, .int (nI a)] h Q = Q (some (.int (aft sh ah ki ca m a))) h := by
  rw [eT_askingAfter]
  simp only [qT_askingAfter_0, qT_askingAfter_17, jT_askingAfter_17, w0, w1, w2i, w2r, w3, w4, w5_0, w5_1, w5_2, w5_3, w5_4, w5_5, w5_6, w5_7, w5_8, w6_0, w6_1, w7_0, w7_1, w7_2, w7_3, w7_4, w7_5, w8_0, w8_1, w9_0, w9_1, w9_2, w10_0, w10_1, w10_2, w10_3, w10_4, w10_5, w11, w12_0, w12_1, w12_2, w12_3, w12_4, w12_5, w13_0, w13_1, w13_2, w13_3, w13_4, w13_5, w14, w15i, w15r, w16, w17, w18, w19i, w19z, w19l, w20, w21, w22, w23, w24, w25, w26, w27, w28_1, w28_2, w28_3, w28_4, w28_5, w28_6, w29, w30i, w30z, w31, w32, w33, w34, w35, w36, w37_1, w37_2, w37_3, w37_4, w37_5, w37_6, isO_O, set1_0, set1_1i, set1_1r, set1_1n, set1_1l, set1_s, set2_0, set2_1i, set2_1r, set2_1n, set2_1l, set2_s, ldv_i, ldv_l, ldv_r, ldv_s, ldi_i, ldi_s, fK_0, fK_s, gfc_O, fS_0, fS_s, uH_s, uH_n, uH_u, tl_s, tl_n, b1_0, b1_1, ite_true, ite_false, if_true, if_false, List.length_nil, List.length_cons, Nat.zero_le, Nat.zero_add, Nat.reduceAdd, Nat.reduceLeDiff, Nat.reduceLT, Nat.reduceEqDiff, Nat.reduceMul, Nat.add_left_cancel_iff, not_false_eq_true, h0, h6, T_weight h0 h5 hm ha, rIc_n ha (show 8 < 2 ^ 31 by decide)]
  unfold aft
  by_cases hw : wt sh a m = 0
  · simp [hw]
  · have e := T_askingAfter_loop (Q := Q) (w := wt sh a m) h0 h5 h6 hm ha m 0 (by omega)
    rw [show nI 0 = 0 from rfl, show tg sh ah a 0 = 0 from rfl] at e
    rw [if_neg hw, if_pos hw, e]
    simp only [qT_askingAfter_55, qT_askingAfter_84, jT_askingAfter_84, qT_askingAfter_86, jT_askingAfter_86, w0, w1, w2i, w2r, w3, w4, w5_0, w5_1, w5_2, w5_3, w5_4, w5_5, w5_6, w5_7, w5_8, w6_0, w6_1, w7_0, w7_1, w7_2, w7_3, w7_4, w7_5, w8_0, w8_1, w9_0, w9_1, w9_2, w10_0, w10_1, w10_2, w10_3, w10_4, w10_5, w11, w12_0, w12_1, w12_2, w12_3, w12_4, w12_5, w13_0, w13_1, w13_2, w13_3, w13_4, w13_5, w14, w15i, w15r, w16, w17, w18, w19i, w19z, w19l, w20, w21, w22, w23, w24, w25, w26, w27, w28_1, w28_2, w28_3, w28_4, w28_5, w28_6, w29, w30i, w30z, w31, w32, w33, w34, w35, w36, w37_1, w37_2, w37_3, w37_4, w37_5, w37_6, isO_O, set1_0, set1_1i, set1_1r, set1_1n, set1_1l, set1_s, set2_0, set2_1i, set2_1r, set2_1n, set2_1l, set2_s, ldv_i, ldv_l, ldv_r, ldv_s, ldi_i, ldi_s, fK_0, fK_s, gfc_O, fS_0, fS_s, uH_s, uH_n, uH_u, tl_s, tl_n, b1_0, b1_1, ite_true, ite_false, if_true, if_false, List.length_nil, List.length_cons, Nat.zero_le, Nat.zero_add, Nat.reduceAdd, Nat.reduceLeDiff, Nat.reduceLT, Nat.reduceEqDiff, Nat.reduceMul, Nat.add_left_cancel_iff, not_false_eq_true, h0, h1, h4, hw, rIc_n ha (show 8 < 2 ^ 31 by decide)]
    by_cases hk : ki a = 2
    · simp [hk]
    · simp [hk]
theorem T_passYear_loop {m : Nat} (hm : m ≤ 8) : ∀ (d i : Nat) (h : AH), i + d = m → h t = tO t (nI m) pu ye → h (t + 1) = aI 8 ki → h (t + 2) = aI 8 (yF sh ah ki ca m as i) → h (t + 4) = aI 8 ca → h (t + 5) = aI 64 sh → h (t + 6) = aI 8 ah → Wp none 38 qT_passYear_19 [some (.ref t), some (.int (yC sh ah ki ca m as i)), some (.int (nI i))] [] h Q = Q (some (.int (yC sh ah ki ca m as m))) (uH h (t + 2) (aI 8 (yF sh ah ki ca m as m))) := by
  intro d
  induction d with
  | zero =>
    intro i h hi h0 h1 h2 h4 h5 h6
    have e : i = m := by omega
    subst e
    have hc : nI i ≤ nI i := nI_le (Nat.le_refl i) (by omega)
    simp only [qT_passYear_19, qT_passYear_70, jT_passYear_70, w0, w1, w2i, w2r, w3, w4, w5_0, w5_1, w5_2, w5_3, w5_4, w5_5, w5_6, w5_7, w5_8, w6_0, w6_1, w7_0, w7_1, w7_2, w7_3, w7_4, w7_5, w8_0, w8_1, w9_0, w9_1, w9_2, w10_0, w10_1, w10_2, w10_3, w10_4, w10_5, w11, w12_0, w12_1, w12_2, w12_3, w12_4, w12_5, w13_0, w13_1, w13_2, w13_3, w13_4, w13_5, w14, w15i, w15r, w16, w17, w18, w19i, w19z, w19l, w20, w21, w22, w23, w24, w25, w26, w27, w28_1, w28_2, w28_3, w28_4, w28_5, w28_6, w29, w30i, w30z, w31, w32, w33, w34, w35, w36, w37_1, w37_2, w37_3, w37_4, w37_5, w37_6, isO_O, set1_0, set1_1i, set1_1r, set1_1n, set1_1l, set1_s, set2_0, set2_1i, set2_1r, set2_1n, set2_1l, set2_s, ldv_i, ldv_l, ldv_r, ldv_s, ldi_i, ldi_s, fK_0, fK_s, gfc_O, fS_0, fS_s, uH_s, uH_n, uH_u, tl_s, tl_n, b1_0, b1_1, ite_true, ite_false, if_true, if_false, List.length_nil, List.length_cons, Nat.zero_le, Nat.zero_add, Nat.reduceAdd, Nat.reduceLeDiff, Nat.reduceLT, Nat.reduceEqDiff, Nat.reduceMul, Nat.add_left_cancel_iff, not_false_eq_true, h0, hc]
    rw [uH_id h h2]
  | succ d ih =>
    intro i h hi h0 h1 h2 h4 h5 h6
    have hc : ¬ nI m ≤ nI i := nI_ge (by omega) (by omega)
    have i8 : i < 8 := by omega
    rw [qT_passYear_19]
    simp only [qT_passYear_46, jT_passYear_46, qT_passYear_64, jT_passYear_64, w0, w1, w2i, w2r, w3, w4, w5_0, w5_1, w5_2, w5_3, w5_4, w5_5, w5_6, w5_7, w5_8, w6_0, w6_1, w7_0, w7_1, w7_2, w7_3, w7_4, w7_5, w8_0, w8_1, w9_0, w9_1, w9_2, w10_0, w10_1, w10_2, w10_3, w10_4, w10_5, w11, w12_0, w12_1, w12_2, w12_3, w12_4, w12_5, w13_0, w13_1, w13_2, w13_3, w13_4, w13_5, w14, w15i, w15r, w16, w17, w18, w19i, w19z, w19l, w20, w21, w22, w23, w24, w25, w26, w27, w28_1, w28_2, w28_3, w28_4, w28_5, w28_6, w29, w30i, w30z, w31, w32, w33, w34, w35, w36, w37_1, w37_2, w37_3, w37_4, w37_5, w37_6, isO_O, set1_0, set1_1i, set1_1r, set1_1n, set1_1l, set1_s, set2_0, set2_1i, set2_1r, set2_1n, set2_1l, set2_s, ldv_i, ldv_l, ldv_r, ldv_s, ldi_i, ldi_s, fK_0, fK_s, gfc_O, fS_0, fS_s, uH_s, uH_n, uH_u, tl_s, tl_n, b1_0, b1_1, ite_true, ite_false, if_true, if_false, List.length_nil, List.length_cons, Nat.zero_le, Nat.zero_add, Nat.reduceAdd, Nat.reduceLeDiff, Nat.reduceLT, Nat.reduceEqDiff, Nat.reduceMul, Nat.add_left_cancel_iff, not_false_eq_true, h0, h2, h6, hc, jT_passYear_19, tnl, T_isFixed h0 h1 i8, T_askingAfter h0 h1 h4 h5 h6 hm i8, z01, ne_eq, Classical.not_not, rIc_n i8 (show 8 < 2 ^ 31 by decide), wIc_n i8 (show 8 < 2 ^ 31 by decide), nI_1]
    by_cases hf : ki i = 1 ∨ ki i = 3
    · have e1 : yF sh ah ki ca m as (i + 1) = yF sh ah ki ca m as i := by rw [yF, if_pos hf]
      rw [if_pos hf]
      by_cases hq : yF sh ah ki ca m as i i = ah i
      · have e2 : yC sh ah ki ca m as (i + 1) = yC sh ah ki ca m as i := by rw [yC, e1, if_pos hq]
        rw [if_pos hq]
        have ih := ih (i + 1) h (by omega) h0 h1 (by rw [e1]; exact h2) h4 h5 h6
        rw [e2] at ih
        exact ih
      · have e2 : yC sh ah ki ca m as (i + 1) = yC sh ah ki ca m as i + 1 := by rw [yC, e1, if_neg hq]
        rw [if_neg hq]
        have ih := ih (i + 1) h (by omega) h0 h1 (by rw [e1]; exact h2) h4 h5 h6
        rw [e2] at ih
        exact ih
    · have e1 : yF sh ah ki ca m as (i + 1) = upd (yF sh ah ki ca m as i) i (aft sh ah ki ca m i) := by rw [yF, if_neg hf]
      rw [if_neg hf]
      have hfa : ∀ c, uH (uH h (t + 2) (aI 8 (upd (yF sh ah ki ca m as i) i (aft sh ah ki ca m i)))) (t + 2) c = uH h (t + 2) c := fun c => uH_u _ _ _ _
      have ih := ih (i + 1) (uH h (t + 2) (aI 8 (upd (yF sh ah ki ca m as i) i (aft sh ah ki ca m i)))) (by omega) (by rw [uH_n _ _ (by omega)]; exact h0) (by rw [uH_n _ _ (by omega)]; exact h1) (by rw [uH_s, e1]) (by rw [uH_n _ _ (by omega)]; exact h4) (by rw [uH_n _ _ (by omega)]; exact h5) (by rw [uH_n _ _ (by omega)]; exact h6)
      rw [hfa] at ih
      by_cases hq : upd (yF sh ah ki ca m as i) i (aft sh ah ki ca m i) i = ah i
      · have e2 : yC sh ah ki ca m as (i + 1) = yC sh ah ki ca m as i := by rw [yC, e1, if_pos hq]
        rw [if_pos hq]
        rw [e2] at ih
        exact ih
      · have e2 : yC sh ah ki ca m as (i + 1) = yC sh ah ki ca m as i + 1 := by rw [yC, e1, if_neg hq]
        rw [if_neg hq]
        rw [e2] at ih
        exact ih
theorem T_passYear {m : Nat} (h0 : h t = tO t (nI m) pu ye) (h1 : h (t + 1) = aI 8 ki) (h2 : h (t + 2) = aI 8 as) (h4 : h (t + 4) = aI 8 ca) (h5 : h (t + 5) = aI 64 sh) (h6 : h (t + 6) = aI 8 ah) (hm : m ≤ 8) : WpM 38 [.ref t] h Q = Q (some (.int (yC sh (va_cpy as ah 0 0 8) ki ca m as m))) (uH (uH h (t + 6) (aI 8 (va_cpy as ah 0 0 8))) (t + 2) (aI 8 (yF sh (va_cpy as ah 0 0 8) ki ca m as m))) := by
  rw [eT_passYear]
  simp only [qT_passYear_0, w0, w1, w2i, w2r, w3, w4, w5_0, w5_1, w5_2, w5_3, w5_4, w5_5, w5_6, w5_7, w5_8, w6_0, w6_1, w7_0, w7_1, w7_2, w7_3, w7_4, w7_5, w8_0, w8_1, w9_0, w9_1, w9_2, w10_0, w10_1, w10_2, w10_3, w10_4, w10_5, w11, w12_0, w12_1, w12_2, w12_3, w12_4, w12_5, w13_0, w13_1, w13_2, w13_3, w13_4, w13_5, w14, w15i, w15r, w16, w17, w18, w19i, w19z, w19l, w20, w21, w22, w23, w24, w25, w26, w27, w28_1, w28_2, w28_3, w28_4, w28_5, w28_6, w29, w30i, w30z, w31, w32, w33, w34, w35, w36, w37_1, w37_2, w37_3, w37_4, w37_5, w37_6, isO_O, set1_0, set1_1i, set1_1r, set1_1n, set1_1l, set1_s, set2_0, set2_1i, set2_1r, set2_1n, set2_1l, set2_s, ldv_i, ldv_l, ldv_r, ldv_s, ldi_i, ldi_s, fK_0, fK_s, gfc_O, fS_0, fS_s, uH_s, uH_n, uH_u, tl_s, tl_n, b1_0, b1_1, ite_true, ite_false, if_true, if_false, List.length_nil, List.length_cons, Nat.zero_le, Nat.zero_add, Nat.reduceAdd, Nat.reduceLeDiff, Nat.reduceLT, Nat.reduceEqDiff, Nat.reduceMul, Nat.add_left_cancel_iff, not_false_eq_true, h0, h2, h6, cp8]
  exact T_passYear_loop (as := as) (ah := va_cpy as ah 0 0 8) hm m 0 _ (by omega) (by rw [uH_n _ _ (by omega)]; exact h0) (by rw [uH_n _ _ (by omega)]; exact h1) (by rw [uH_n _ _ (by omega)]; exact h2) (by rw [uH_n _ _ (by omega)]; exact h4) (by rw [uH_n _ _ (by omega)]; exact h5) (by rw [uH_s])
theorem nI_z {m : Nat} (hm : m < 2 ^ 31) : (nI m = 0) = (m = 0) := propext (by rw [show (0 : Int32) = nI 0 from rfl]; exact nI_eq hm (by decide))
theorem T_reached_in {m set last : Nat} {st : Int32} (bes : Nat → Nat) (adj : Nat → Nat → Bool) (hadj : ∀ a b, a < 8 → b < 8 → (adj a b = true ↔ ¬ sh (8 * a + b) ≤ 0)) (hbes : ∀ a, bes a = enc (adj a) m) (hl : last < 256) (h0 : h t = tO t (nI m) pu ye) (h5 : h (t + 5) = aI 64 sh) (hm : m ≤ 8) : ∀ (d i : Nat), i + d = m → Wp none 36 qT_reachedSet_27 [some (.ref t), some (.int (nI set)), some (.int (nI last)), some (.int st), some (.int (nI (bI bes last i))), some (.int (nI i))] [] h Q = Wp none 36 qT_reachedSet_62 [some (.ref t), some (.int (nI set)), some (.int (nI last)), some (.int st), some (.int (nI (bI bes last m))), some (.int (nI m))] [] h Q := by
  intro d
  induction d with
  | zero =>
    intro i hi
    have e : i = m := by omega
    subst e
    have hc : nI i ≤ nI i := nI_le (Nat.le_refl i) (by omega)
    rw [qT_reachedSet_27]
    simp only [jT_reachedSet_62, w0, w1, w2i, w2r, w3, w4, w5_0, w5_1, w5_2, w5_3, w5_4, w5_5, w5_6, w5_7, w5_8, w6_0, w6_1, w7_0, w7_1, w7_2, w7_3, w7_4, w7_5, w8_0, w8_1, w9_0, w9_1, w9_2, w10_0, w10_1, w10_2, w10_3, w10_4, w10_5, w11, w12_0, w12_1, w12_2, w12_3, w12_4, w12_5, w13_0, w13_1, w13_2, w13_3, w13_4, w13_5, w14, w15i, w15r, w16, w17, w18, w19i, w19z, w19l, w20, w21, w22, w23, w24, w25, w26, w27, w28_1, w28_2, w28_3, w28_4, w28_5, w28_6, w29, w30i, w30z, w31, w32, w33, w34, w35, w36, w37_1, w37_2, w37_3, w37_4, w37_5, w37_6, isO_O, set1_0, set1_1i, set1_1r, set1_1n, set1_1l, set1_s, set2_0, set2_1i, set2_1r, set2_1n, set2_1l, set2_s, ldv_i, ldv_l, ldv_r, ldv_s, ldi_i, ldi_s, fK_0, fK_s, gfc_O, fS_0, fS_s, uH_s, uH_n, uH_u, tl_s, tl_n, b1_0, b1_1, ite_true, ite_false, if_true, if_false, List.length_nil, List.length_cons, Nat.zero_le, Nat.zero_add, Nat.reduceAdd, Nat.reduceLeDiff, Nat.reduceLT, Nat.reduceEqDiff, Nat.reduceMul, Nat.add_left_cancel_iff, not_false_eq_true, h0, hc]
  | succ d ih =>
    intro i hi
    have hc : ¬ nI m ≤ nI i := nI_ge (by omega) (by omega)
    have i8 : i < 8 := by omega
    rw [qT_reachedSet_27]
    simp only [qT_reachedSet_56, jT_reachedSet_56, jT_reachedSet_27, w0, w1, w2i, w2r, w3, w4, w5_0, w5_1, w5_2, w5_3, w5_4, w5_5, w5_6, w5_7, w5_8, w6_0, w6_1, w7_0, w7_1, w7_2, w7_3, w7_4, w7_5, w8_0, w8_1, w9_0, w9_1, w9_2, w10_0, w10_1, w10_2, w10_3, w10_4, w10_5, w11, w12_0, w12_1, w12_2, w12_3, w12_4, w12_5, w13_0, w13_1, w13_2, w13_3, w13_4, w13_5, w14, w15i, w15r, w16, w17, w18, w19i, w19z, w19l, w20, w21, w22, w23, w24, w25, w26, w27, w28_1, w28_2, w28_3, w28_4, w28_5, w28_6, w29, w30i, w30z, w31, w32, w33, w34, w35, w36, w37_1, w37_2, w37_3, w37_4, w37_5, w37_6, isO_O, set1_0, set1_1i, set1_1r, set1_1n, set1_1l, set1_s, set2_0, set2_1i, set2_1r, set2_1n, set2_1l, set2_s, ldv_i, ldv_l, ldv_r, ldv_s, ldi_i, ldi_s, fK_0, fK_s, gfc_O, fS_0, fS_s, uH_s, uH_n, uH_u, tl_s, tl_n, b1_0, b1_1, ite_true, ite_false, if_true, if_false, List.length_nil, List.length_cons, Nat.zero_le, Nat.zero_add, Nat.reduceAdd, Nat.reduceLeDiff, Nat.reduceLT, Nat.reduceEqDiff, Nat.reduceMul, Nat.add_left_cancel_iff, not_false_eq_true, h0, hc, C_isIn, z01, bit1 (show last < 2 ^ 31 by omega) (show i < 31 by omega), T_besideSet (adj i) (fun b hb => hadj i b i8 hb) h0 h5 hm i8, ← hbes, fa_or, nI_1]
    have ih := ih (i + 1) (by omega)
    by_cases hb : last.testBit i = true
    · rw [if_neg (fun z => z hb)]
      have e : bI bes last (i + 1) = bI bes last i ||| bes i := by rw [bI, if_pos hb]
      rw [e] at ih
      exact ih
    · rw [if_pos hb]
      have e : bI bes last (i + 1) = bI bes last i := by rw [bI, if_neg hb]
      rw [e] at ih
      exact ih
theorem T_reached_out {m : Nat} (bes : Nat → Nat) (adj : Nat → Nat → Bool) (hadj : ∀ a b, a < 8 → b < 8 → (adj a b = true ↔ ¬ sh (8 * a + b) ≤ 0)) (hbes : ∀ a, bes a = enc (adj a) m) (h0 : h t = tO t (nI m) pu ye) (h5 : h (t + 5) = aI 64 sh) (hm : m ≤ 8) : ∀ (d s set last : Nat) (x y : Option Value), s + d = m → set < 256 → last < 256 → Wp none 36 qT_reachedSet_9 [some (.ref t), some (.int (nI set)), some (.int (nI last)), some (.int (nI s)), x, y] [] h Q = Q (some (.int (nI (rS bes m d set last)))) h := by
  have hb8 : ∀ a, bes a < 2 ^ 8 := fun a => by
    rw [hbes]
    exact Nat.lt_of_lt_of_le (enc_lt _ m) (Nat.pow_le_pow_right (by decide) hm)
  intro d
  induction d with
  | zero =>
    intro s set last x y hs h1 h2
    have e : s = m := by omega
    subst e
    have hc : nI s ≤ nI s := nI_le (Nat.le_refl s) (by omega)
    simp only [qT_reachedSet_9, qT_reachedSet_79, jT_reachedSet_79, w0, w1, w2i, w2r, w3, w4, w5_0, w5_1, w5_2, w5_3, w5_4, w5_5, w5_6, w5_7, w5_8, w6_0, w6_1, w7_0, w7_1, w7_2, w7_3, w7_4, w7_5, w8_0, w8_1, w9_0, w9_1, w9_2, w10_0, w10_1, w10_2, w10_3, w10_4, w10_5, w11, w12_0, w12_1, w12_2, w12_3, w12_4, w12_5, w13_0, w13_1, w13_2, w13_3, w13_4, w13_5, w14, w15i, w15r, w16, w17, w18, w19i, w19z, w19l, w20, w21, w22, w23, w24, w25, w26, w27, w28_1, w28_2, w28_3, w28_4, w28_5, w28_6, w29, w30i, w30z, w31, w32, w33, w34, w35, w36, w37_1, w37_2, w37_3, w37_4, w37_5, w37_6, isO_O, set1_0, set1_1i, set1_1r, set1_1n, set1_1l, set1_s, set2_0, set2_1i, set2_1r, set2_1n, set2_1l, set2_s, ldv_i, ldv_l, ldv_r, ldv_s, ldi_i, ldi_s, fK_0, fK_s, gfc_O, fS_0, fS_s, uH_s, uH_n, uH_u, tl_s, tl_n, b1_0, b1_1, ite_true, ite_false, if_true, if_false, List.length_nil, List.length_cons, Nat.zero_le, Nat.zero_add, Nat.reduceAdd, Nat.reduceLeDiff, Nat.reduceLT, Nat.reduceEqDiff, Nat.reduceMul, Nat.add_left_cancel_iff, not_false_eq_true, h0, hc, rS]
  | succ d ih =>
    intro s set last x y hs h1 h2
    have hc : ¬ nI m ≤ nI s := nI_ge (by omega) (by omega)
    rw [qT_reachedSet_9]
    simp only [qT_reachedSet_79, jT_reachedSet_79, w0, w1, w2i, w2r, w3, w4, w5_0, w5_1, w5_2, w5_3, w5_4, w5_5, w5_6, w5_7, w5_8, w6_0, w6_1, w7_0, w7_1, w7_2, w7_3, w7_4, w7_5, w8_0, w8_1, w9_0, w9_1, w9_2, w10_0, w10_1, w10_2, w10_3, w10_4, w10_5, w11, w12_0, w12_1, w12_2, w12_3, w12_4, w12_5, w13_0, w13_1, w13_2, w13_3, w13_4, w13_5, w14, w15i, w15r, w16, w17, w18, w19i, w19z, w19l, w20, w21, w22, w23, w24, w25, w26, w27, w28_1, w28_2, w28_3, w28_4, w28_5, w28_6, w29, w30i, w30z, w31, w32, w33, w34, w35, w36, w37_1, w37_2, w37_3, w37_4, w37_5, w37_6, isO_O, set1_0, set1_1i, set1_1r, set1_1n, set1_1l, set1_s, set2_0, set2_1i, set2_1r, set2_1n, set2_1l, set2_s, ldv_i, ldv_l, ldv_r, ldv_s, ldi_i, ldi_s, fK_0, fK_s, gfc_O, fS_0, fS_s, uH_s, uH_n, uH_u, tl_s, tl_n, b1_0, b1_1, ite_true, ite_false, if_true, if_false, List.length_nil, List.length_cons, Nat.zero_le, Nat.zero_add, Nat.reduceAdd, Nat.reduceLeDiff, Nat.reduceLT, Nat.reduceEqDiff, Nat.reduceMul, Nat.add_left_cancel_iff, not_false_eq_true, h0, hc, nI_z (show last < 2 ^ 31 by omega)]
    by_cases hz : last = 0
    · rw [if_pos hz]
      simp only [rS, hz, if_true]
    · rw [if_neg hz]
      have e := T_reached_in (Q := Q) (set := set) (st := nI s) bes adj hadj hbes h2 h0 h5 hm m 0 (by omega)
      rw [show nI 0 = 0 from rfl, show nI (bI bes last 0) = 0 from rfl] at e
      rw [e]
      simp only [qT_reachedSet_62, jT_reachedSet_9, w0, w1, w2i, w2r, w3, w4, w5_0, w5_1, w5_2, w5_3, w5_4, w5_5, w5_6, w5_7, w5_8, w6_0, w6_1, w7_0, w7_1, w7_2, w7_3, w7_4, w7_5, w8_0, w8_1, w9_0, w9_1, w9_2, w10_0, w10_1, w10_2, w10_3, w10_4, w10_5, w11, w12_0, w12_1, w12_2, w12_3, w12_4, w12_5, w13_0, w13_1, w13_2, w13_3, w13_4, w13_5, w14, w15i, w15r, w16, w17, w18, w19i, w19z, w19l, w20, w21, w22, w23, w24, w25, w26, w27, w28_1, w28_2, w28_3, w28_4, w28_5, w28_6, w29, w30i, w30z, w31, w32, w33, w34, w35, w36, w37_1, w37_2, w37_3, w37_4, w37_5, w37_6, isO_O, set1_0, set1_1i, set1_1r, set1_1n, set1_1l, set1_s, set2_0, set2_1i, set2_1r, set2_1n, set2_1l, set2_s, ldv_i, ldv_l, ldv_r, ldv_s, ldi_i, ldi_s, fK_0, fK_s, gfc_O, fS_0, fS_s, uH_s, uH_n, uH_u, tl_s, tl_n, b1_0, b1_1, ite_true, ite_false, if_true, if_false, List.length_nil, List.length_cons, Nat.zero_le, Nat.zero_add, Nat.reduceAdd, Nat.reduceLeDiff, Nat.reduceLT, Nat.reduceEqDiff, Nat.reduceMul, Nat.add_left_cancel_iff, not_false_eq_true, nI_andn, fa_or, nI_1]
      have hx : andn (bI bes last m) set < 2 ^ 8 := andn_lt (bI_lt hb8 m)
      rw [ih (s + 1) _ _ _ _ (by omega) (Nat.or_lt_two_pow (n := 8) h1 hx) hx]
      simp only [rS, hz, if_false]
theorem T_reachedSet {m : Nat} (p : Nat → Bool) (hp : ∀ a, a < 8 → (p a = true ↔ (ki a = 1 ∨ ki a = 3))) (bes : Nat → Nat) (adj : Nat → Nat → Bool) (hadj : ∀ a b, a < 8 → b < 8 → (adj a b = true ↔ ¬ sh (8 * a + b) ≤ 0)) (hbes : ∀ a, bes a = enc (adj a) m) (h0 : h t = tO t (nI m) pu ye) (h1 : h (t + 1) = aI 8 ki) (h5 : h (t + 5) = aI 64 sh) (hm : m ≤ 8) : WpM 36 [.ref t] h Q = Q (some (.int (nI (rS bes m m (enc p m) (enc p m))))) h := by
  rw [eT_reachedSet]
  simp only [qT_reachedSet_0, w0, w1, w2i, w2r, w3, w4, w5_0, w5_1, w5_2, w5_3, w5_4, w5_5, w5_6, w5_7, w5_8, w6_0, w6_1, w7_0, w7_1, w7_2, w7_3, w7_4, w7_5, w8_0, w8_1, w9_0, w9_1, w9_2, w10_0, w10_1, w10_2, w10_3, w10_4, w10_5, w11, w12_0, w12_1, w12_2, w12_3, w12_4, w12_5, w13_0, w13_1, w13_2, w13_3, w13_4, w13_5, w14, w15i, w15r, w16, w17, w18, w19i, w19z, w19l, w20, w21, w22, w23, w24, w25, w26, w27, w28_1, w28_2, w28_3, w28_4, w28_5, w28_6, w29, w30i, w30z, w31, w32, w33, w34, w35, w36, w37_1, w37_2, w37_3, w37_4, w37_5, w37_6, isO_O, set1_0, set1_1i, set1_1r, set1_1n, set1_1l, set1_s, set2_0, set2_1i, set2_1r, set2_1n, set2_1l, set2_s, ldv_i, ldv_l, ldv_r, ldv_s, ldi_i, ldi_s, fK_0, fK_s, gfc_O, fS_0, fS_s, uH_s, uH_n, uH_u, tl_s, tl_n, b1_0, b1_1, ite_true, ite_false, if_true, if_false, List.length_nil, List.length_cons, Nat.zero_le, Nat.zero_add, Nat.reduceAdd, Nat.reduceLeDiff, Nat.reduceLT, Nat.reduceEqDiff, Nat.reduceMul, Nat.add_left_cancel_iff, not_false_eq_true, h0, T_fixedSet p hp h0 h1 hm]
  have hx : enc p m < 256 := Nat.lt_of_lt_of_le (enc_lt p m) (Nat.pow_le_pow_right (show 0 < 2 by decide) hm)
  exact T_reached_out bes adj hadj hbes h0 h5 hm m 0 _ _ _ _ (by omega) hx hx
end TOWN2
theorem T_takeFrom_15_1 {h : AH} {Q : Option Value → AH → Prop} {n pu ye n' pu' ye' : Int32} {ki as ow ca sh ki' as' ow' ca' sh' : Nat → Int32} (h15 : h 15 = tO 15 n pu ye) (h1 : h 1 = tO 1 n' pu' ye') (h16 : h 16 = aI 8 ki) (h2 : h 2 = aI 8 ki') (h17 : h 17 = aI 8 as) (h3 : h 3 = aI 8 as') (h18 : h 18 = aI 8 ow) (h4 : h 4 = aI 8 ow') (h19 : h 19 = aI 8 ca) (h5 : h 5 = aI 8 ca') (h20 : h 20 = aI 64 sh) (h6 : h 6 = aI 64 sh') : WpM 40 [.ref 15, .ref 1] h Q = Q none (uH (uH (uH (uH (uH (uH h 15 (tO 15 n' pu' ye')) 16 (aI 8 (va_cpy ki' ki 0 0 8))) 17 (aI 8 (va_cpy as' as 0 0 8))) 18 (aI 8 (va_cpy ow' ow 0 0 8))) 19 (aI 8 (va_cpy ca' ca 0 0 8))) 20 (aI 64 (va_cpy sh' sh 0 0 64))) := by
  rw [eT_takeFrom]
  simp only [qT_takeFrom_0, jT_takeFrom_0, w0, w1, w2i, w2r, w3, w4, w5_0, w5_1, w5_2, w5_3, w5_4, w5_5, w5_6, w5_7, w5_8, w6_0, w6_1, w7_0, w7_1, w7_2, w7_3, w7_4, w7_5, w8_0, w8_1, w9_0, w9_1, w9_2, w10_0, w10_1, w10_2, w10_3, w10_4, w10_5, w11, w12_0, w12_1, w12_2, w12_3, w12_4, w12_5, w13_0, w13_1, w13_2, w13_3, w13_4, w13_5, w14, w15i, w15r, w16, w17, w18, w19i, w19z, w19l, w20, w21, w22, w23, w24, w25, w26, w27, w28_1, w28_2, w28_3, w28_4, w28_5, w28_6, w29, w30i, w30z, w31, w32, w33, w34, w35, w36, w37_1, w37_2, w37_3, w37_4, w37_5, w37_6, isO_O, set1_0, set1_1i, set1_1r, set1_1n, set1_1l, set1_s, set2_0, set2_1i, set2_1r, set2_1n, set2_1l, set2_s, ldv_i, ldv_l, ldv_r, ldv_s, ldi_i, ldi_s, fK_0, fK_s, gfc_O, fS_0, fS_s, uH_s, uH_n, uH_u, tl_s, tl_n, b1_0, b1_1, ite_true, ite_false, if_true, if_false, List.length_nil, List.length_cons, Nat.zero_le, Nat.zero_add, Nat.reduceAdd, Nat.reduceLeDiff, Nat.reduceLT, Nat.reduceEqDiff, Nat.reduceMul, Nat.add_left_cancel_iff, not_false_eq_true, h15, h1, h16, h17, h18, h19, h20, h2, h3, h4, h5, h6, pfc_3, cp8, cp64]
theorem T_takeFrom_1_15 {h : AH} {Q : Option Value → AH → Prop} {n pu ye n' pu' ye' : Int32} {ki as ow ca sh ki' as' ow' ca' sh' : Nat → Int32} (h1 : h 1 = tO 1 n pu ye) (h15 : h 15 = tO 15 n' pu' ye') (h2 : h 2 = aI 8 ki) (h16 : h 16 = aI 8 ki') (h3 : h 3 = aI 8 as) (h17 : h 17 = aI 8 as') (h4 : h 4 = aI 8 ow) (h18 : h 18 = aI 8 ow') (h5 : h 5 = aI 8 ca) (h19 : h 19 = aI 8 ca') (h6 : h 6 = aI 64 sh) (h20 : h 20 = aI 64 sh') : WpM 40 [.ref 1, .ref 15] h Q = Q none (uH (uH (uH (uH (uH (uH h 1 (tO 1 n' pu' ye')) 2 (aI 8 (va_cpy ki' ki 0 0 8))) 3 (aI 8 (va_cpy as' as 0 0 8))) 4 (aI 8 (va_cpy ow' ow 0 0 8))) 5 (aI 8 (va_cpy ca' ca 0 0 8))) 6 (aI 64 (va_cpy sh' sh 0 0 64))) := by
  rw [eT_takeFrom]
  simp only [qT_takeFrom_0, jT_takeFrom_0, w0, w1, w2i, w2r, w3, w4, w5_0, w5_1, w5_2, w5_3, w5_4, w5_5, w5_6, w5_7, w5_8, w6_0, w6_1, w7_0, w7_1, w7_2, w7_3, w7_4, w7_5, w8_0, w8_1, w9_0, w9_1, w9_2, w10_0, w10_1, w10_2, w10_3, w10_4, w10_5, w11, w12_0, w12_1, w12_2, w12_3, w12_4, w12_5, w13_0, w13_1, w13_2, w13_3, w13_4, w13_5, w14, w15i, w15r, w16, w17, w18, w19i, w19z, w19l, w20, w21, w22, w23, w24, w25, w26, w27, w28_1, w28_2, w28_3, w28_4, w28_5, w28_6, w29, w30i, w30z, w31, w32, w33, w34, w35, w36, w37_1, w37_2, w37_3, w37_4, w37_5, w37_6, isO_O, set1_0, set1_1i, set1_1r, set1_1n, set1_1l, set1_s, set2_0, set2_1i, set2_1r, set2_1n, set2_1l, set2_s, ldv_i, ldv_l, ldv_r, ldv_s, ldi_i, ldi_s, fK_0, fK_s, gfc_O, fS_0, fS_s, uH_s, uH_n, uH_u, tl_s, tl_n, b1_0, b1_1, ite_true, ite_false, if_true, if_false, List.length_nil, List.length_cons, Nat.zero_le, Nat.zero_add, Nat.reduceAdd, Nat.reduceLeDiff, Nat.reduceLT, Nat.reduceEqDiff, Nat.reduceMul, Nat.add_left_cancel_iff, not_false_eq_true, h1, h15, h2, h3, h4, h5, h6, h16, h17, h18, h19, h20, pfc_3, cp8, cp64]
theorem T_takeFrom_8_1 {h : AH} {Q : Option Value → AH → Prop} {n pu ye n' pu' ye' : Int32} {ki as ow ca sh ki' as' ow' ca' sh' : Nat → Int32} (h8 : h 8 = tO 8 n pu ye) (h1 : h 1 = tO 1 n' pu' ye') (h9 : h 9 = aI 8 ki) (h2 : h 2 = aI 8 ki') (h10 : h 10 = aI 8 as) (h3 : h 3 = aI 8 as') (h11 : h 11 = aI 8 ow) (h4 : h 4 = aI 8 ow') (h12 : h 12 = aI 8 ca) (h5 : h 5 = aI 8 ca') (h13 : h 13 = aI 64 sh) (h6 : h 6 = aI 64 sh') : WpM 40 [.ref 8, .ref 1] h Q = Q none (uH (uH (uH (uH (uH (uH h 8 (tO 8 n' pu' ye')) 9 (aI 8 (va_cpy ki' ki 0 0 8))) 10 (aI 8 (va_cpy as' as 0 0 8))) 11 (aI 8 (va_cpy ow' ow 0 0 8))) 12 (aI 8 (va_cpy ca' ca 0 0 8))) 13 (aI 64 (va_cpy sh' sh 0 0 64))) := by
  rw [eT_takeFrom]
  simp only [qT_takeFrom_0, jT_takeFrom_0, w0, w1, w2i, w2r, w3, w4, w5_0, w5_1, w5_2, w5_3, w5_4, w5_5, w5_6, w5_7, w5_8, w6_0, w6_1, w7_0, w7_1, w7_2, w7_3, w7_4, w7_5, w8_0, w8_1, w9_0, w9_1, w9_2, w10_0, w10_1, w10_2, w10_3, w10_4, w10_5, w11, w12_0, w12_1, w12_2, w12_3, w12_4, w12_5, w13_0, w13_1, w13_2, w13_3, w13_4, w13_5, w14, w15i, w15r, w16, w17, w18, w19i, w19z, w19l, w20, w21, w22, w23, w24, w25, w26, w27, w28_1, w28_2, w28_3, w28_4, w28_5, w28_6, w29, w30i, w30z, w31, w32, w33, w34, w35, w36, w37_1, w37_2, w37_3, w37_4, w37_5, w37_6, isO_O, set1_0, set1_1i, set1_1r, set1_1n, set1_1l, set1_s, set2_0, set2_1i, set2_1r, set2_1n, set2_1l, set2_s, ldv_i, ldv_l, ldv_r, ldv_s, ldi_i, ldi_s, fK_0, fK_s, gfc_O, fS_0, fS_s, uH_s, uH_n, uH_u, tl_s, tl_n, b1_0, b1_1, ite_true, ite_false, if_true, if_false, List.length_nil, List.length_cons, Nat.zero_le, Nat.zero_add, Nat.reduceAdd, Nat.reduceLeDiff, Nat.reduceLT, Nat.reduceEqDiff, Nat.reduceMul, Nat.add_left_cancel_iff, not_false_eq_true, h8, h1, h9, h10, h11, h12, h13, h2, h3, h4, h5, h6, pfc_3, cp8, cp64]
theorem T_takeFrom_1_8 {h : AH} {Q : Option Value → AH → Prop} {n pu ye n' pu' ye' : Int32} {ki as ow ca sh ki' as' ow' ca' sh' : Nat → Int32} (h1 : h 1 = tO 1 n pu ye) (h8 : h 8 = tO 8 n' pu' ye') (h2 : h 2 = aI 8 ki) (h9 : h 9 = aI 8 ki') (h3 : h 3 = aI 8 as) (h10 : h 10 = aI 8 as') (h4 : h 4 = aI 8 ow) (h11 : h 11 = aI 8 ow') (h5 : h 5 = aI 8 ca) (h12 : h 12 = aI 8 ca') (h6 : h 6 = aI 64 sh) (h13 : h 13 = aI 64 sh') : WpM 40 [.ref 1, .ref 8] h Q = Q none (uH (uH (uH (uH (uH (uH h 1 (tO 1 n' pu' ye')) 2 (aI 8 (va_cpy ki' ki 0 0 8))) 3 (aI 8 (va_cpy as' as 0 0 8))) 4 (aI 8 (va_cpy ow' ow 0 0 8))) 5 (aI 8 (va_cpy ca' ca 0 0 8))) 6 (aI 64 (va_cpy sh' sh 0 0 64))) := by
  rw [eT_takeFrom]
  simp only [qT_takeFrom_0, jT_takeFrom_0, w0, w1, w2i, w2r, w3, w4, w5_0, w5_1, w5_2, w5_3, w5_4, w5_5, w5_6, w5_7, w5_8, w6_0, w6_1, w7_0, w7_1, w7_2, w7_3, w7_4, w7_5, w8_0, w8_1, w9_0, w9_1, w9_2, w10_0, w10_1, w10_2, w10_3, w10_4, w10_5, w11, w12_0, w12_1, w12_2, w12_3, w12_4, w12_5, w13_0, w13_1, w13_2, w13_3, w13_4, w13_5, w14, w15i, w15r, w16, w17, w18, w19i, w19z, w19l, w20, w21, w22, w23, w24, w25, w26, w27, w28_1, w28_2, w28_3, w28_4, w28_5, w28_6, w29, w30i, w30z, w31, w32, w33, w34, w35, w36, w37_1, w37_2, w37_3, w37_4, w37_5, w37_6, isO_O, set1_0, set1_1i, set1_1r, set1_1n, set1_1l, set1_s, set2_0, set2_1i, set2_1r, set2_1n, set2_1l, set2_s, ldv_i, ldv_l, ldv_r, ldv_s, ldi_i, ldi_s, fK_0, fK_s, gfc_O, fS_0, fS_s, uH_s, uH_n, uH_u, tl_s, tl_n, b1_0, b1_1, ite_true, ite_false, if_true, if_false, List.length_nil, List.length_cons, Nat.zero_le, Nat.zero_add, Nat.reduceAdd, Nat.reduceLeDiff, Nat.reduceLT, Nat.reduceEqDiff, Nat.reduceMul, Nat.add_left_cancel_iff, not_false_eq_true, h1, h8, h2, h3, h4, h5, h6, h9, h10, h11, h12, h13, pfc_3, cp8, cp64]

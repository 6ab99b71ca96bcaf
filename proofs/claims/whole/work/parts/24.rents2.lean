/-! Rents: other askings, incomes, near -/
section RENTS2
variable {h : AH} {Q : Option Value → AH → Prop} {t : Nat} {n pu ye : Int32} {ki as ow ca sh ah ak : Nat → Int32} {be : Int64} {re op sz : Int32} {ab ro : Nat → Int64} {r o m : Nat}
theorem R_reprice_loop {f : Nat} {more v : Int32} (hr : r < 256) (ho : o < 256) (hm : m ≤ 8) (hf : f < 8) : ∀ (e i : Nat) (h : AH), i + e = m → h 22 = rO be (nI r) (nI o) (nI m) → h 23 = aJ 8 (rpF ab ro r o be f more i) → h 25 = aJ 72 ro → Wp none 9 qR_reprice_12 [some (.ref 22), some (.int (nI f)), some (.int v), some (.int more), some (.int (nI i))] [] h Q = Wp none 9 qR_reprice_56 [some (.ref 22), some (.int (nI f)), some (.int v), some (.int more), some (.int (nI m))] [] (uH h 23 (aJ 8 (rpF ab ro r o be f more m))) Q := by
  intro e
  induction e with
  | zero =>
    intro i h hi h22 h23 h25
    have e : i = m := by omega
    subst e
    have hc : nI i ≤ nI i := nI_le (Nat.le_refl i) (by omega)
    rw [qR_reprice_12]
    simp only [jR_reprice_56, w0, w1, w2i, w2r, w3, w4, w5_0, w5_1, w5_2, w5_3, w5_4, w5_5, w5_6, w5_7, w5_8, w6_0, w6_1, w7_0, w7_1, w7_2, w7_3, w7_4, w7_5, w8_0, w8_1, w9_0, w9_1, w9_2, w10_0, w10_1, w10_2, w10_3, w10_4, w10_5, w11, w12_0, w12_1, w12_2, w12_3, w12_4, w12_5, w13_0, w13_1, w13_2, w13_3, w13_4, w13_5, w14, w15i, w15r, w16, w17, w18, w19i, w19z, w19l, w20, w21, w22, w23, w24, w25, w26, w27, w28_1, w28_2, w28_3, w28_4, w28_5, w28_6, w29, w30i, w30z, w31, w32, w33, w34, w35, w36, w37_1, w37_2, w37_3, w37_4, w37_5, w37_6, isO_O, set1_0, set1_1i, set1_1r, set1_1n, set1_1l, set1_s, set2_0, set2_1i, set2_1r, set2_1n, set2_1l, set2_s, ldv_i, ldv_l, ldv_r, ldv_s, ldi_i, ldi_s, fK_0, fK_s, gfc_O, fS_0, fS_s, uH_s, uH_n, uH_u, tl_s, tl_n, b1_0, b1_1, ite_true, ite_false, if_true, if_false, List.length_nil, List.length_cons, Nat.zero_le, Nat.zero_add, Nat.reduceAdd, Nat.reduceLeDiff, Nat.reduceLT, Nat.reduceEqDiff, Nat.reduceMul, Nat.add_left_cancel_iff, not_false_eq_true, h22, hc]
    rw [uH_id h h23]
  | succ e ih =>
    intro i h hi h22 h23 h25
    have hc : ¬ nI m ≤ nI i := nI_ge (by omega) (by omega)
    have i8 : i < 8 := by omega
    rw [qR_reprice_12]
    simp only [qR_reprice_50, jR_reprice_50, jR_reprice_12, w0, w1, w2i, w2r, w3, w4, w5_0, w5_1, w5_2, w5_3, w5_4, w5_5, w5_6, w5_7, w5_8, w6_0, w6_1, w7_0, w7_1, w7_2, w7_3, w7_4, w7_5, w8_0, w8_1, w9_0, w9_1, w9_2, w10_0, w10_1, w10_2, w10_3, w10_4, w10_5, w11, w12_0, w12_1, w12_2, w12_3, w12_4, w12_5, w13_0, w13_1, w13_2, w13_3, w13_4, w13_5, w14, w15i, w15r, w16, w17, w18, w19i, w19z, w19l, w20, w21, w22, w23, w24, w25, w26, w27, w28_1, w28_2, w28_3, w28_4, w28_5, w28_6, w29, w30i, w30z, w31, w32, w33, w34, w35, w36, w37_1, w37_2, w37_3, w37_4, w37_5, w37_6, isO_O, set1_0, set1_1i, set1_1r, set1_1n, set1_1l, set1_s, set2_0, set2_1i, set2_1r, set2_1n, set2_1l, set2_s, ldv_i, ldv_l, ldv_r, ldv_s, ldi_i, ldi_s, fK_0, fK_s, gfc_O, fS_0, fS_s, uH_s, uH_n, uH_u, tl_s, tl_n, b1_0, b1_1, ite_true, ite_false, if_true, if_false, List.length_nil, List.length_cons, Nat.zero_le, Nat.zero_add, Nat.reduceAdd, Nat.reduceLeDiff, Nat.reduceLT, Nat.reduceEqDiff, Nat.reduceMul, Nat.add_left_cancel_iff, not_false_eq_true, h22, h23, hc, R_reaches h22 hr i8, z01, R_movesAbove h22 h25 ho i8 hf, rJc_n i8 (show 8 < 2 ^ 31 by decide), wJc_n i8 (show 8 < 2 ^ 31 by decide), nI_1]
    by_cases hb : r.testBit i = true
    · rw [if_neg (fun z => z hb)]
      rw [ih (i + 1) _ (by omega) (by rw [uH_n _ _ (by omega)]; exact h22) (by rw [uH_s, rpF, if_pos hb]) (by rw [uH_n _ _ (by omega)]; exact h25), uH_u]
    · rw [if_pos hb]
      rw [ih (i + 1) h (by omega) h22 (by rw [rpF, if_neg hb]; exact h23) h25]
theorem R_reprice {f : Nat} {v : Int32} (h22 : h 22 = rO be (nI r) (nI o) (nI m)) (h23 : h 23 = aJ 8 ab) (h24 : h 24 = aI 8 ak) (h25 : h 25 = aJ 72 ro) (hr : r < 256) (ho : o < 256) (hm : m ≤ 8) (hf : f < 8) : WpM 9 [.ref 22, .int (nI f), .int v] h Q = Q none (uH (uH h 23 (aJ 8 (rpF ab ro r o be f (v - ak f) m))) 24 (aI 8 (upd ak f v))) := by
  rw [eR_reprice]
  simp only [qR_reprice_0, w0, w1, w2i, w2r, w3, w4, w5_0, w5_1, w5_2, w5_3, w5_4, w5_5, w5_6, w5_7, w5_8, w6_0, w6_1, w7_0, w7_1, w7_2, w7_3, w7_4, w7_5, w8_0, w8_1, w9_0, w9_1, w9_2, w10_0, w10_1, w10_2, w10_3, w10_4, w10_5, w11, w12_0, w12_1, w12_2, w12_3, w12_4, w12_5, w13_0, w13_1, w13_2, w13_3, w13_4, w13_5, w14, w15i, w15r, w16, w17, w18, w19i, w19z, w19l, w20, w21, w22, w23, w24, w25, w26, w27, w28_1, w28_2, w28_3, w28_4, w28_5, w28_6, w29, w30i, w30z, w31, w32, w33, w34, w35, w36, w37_1, w37_2, w37_3, w37_4, w37_5, w37_6, isO_O, set1_0, set1_1i, set1_1r, set1_1n, set1_1l, set1_s, set2_0, set2_1i, set2_1r, set2_1n, set2_1l, set2_s, ldv_i, ldv_l, ldv_r, ldv_s, ldi_i, ldi_s, fK_0, fK_s, gfc_O, fS_0, fS_s, uH_s, uH_n, uH_u, tl_s, tl_n, b1_0, b1_1, ite_true, ite_false, if_true, if_false, List.length_nil, List.length_cons, Nat.zero_le, Nat.zero_add, Nat.reduceAdd, Nat.reduceLeDiff, Nat.reduceLT, Nat.reduceEqDiff, Nat.reduceMul, Nat.add_left_cancel_iff, not_false_eq_true, h22, h24, rIc_n hf (show 8 < 2 ^ 31 by decide)]
  have e := R_reprice_loop (Q := Q) (more := v - ak f) (v := v) hr ho hm hf m 0 h (by omega) h22 h23 h25
  rw [show nI 0 = 0 from rfl] at e
  rw [e]
  simp only [qR_reprice_56, w0, w1, w2i, w2r, w3, w4, w5_0, w5_1, w5_2, w5_3, w5_4, w5_5, w5_6, w5_7, w5_8, w6_0, w6_1, w7_0, w7_1, w7_2, w7_3, w7_4, w7_5, w8_0, w8_1, w9_0, w9_1, w9_2, w10_0, w10_1, w10_2, w10_3, w10_4, w10_5, w11, w12_0, w12_1, w12_2, w12_3, w12_4, w12_5, w13_0, w13_1, w13_2, w13_3, w13_4, w13_5, w14, w15i, w15r, w16, w17, w18, w19i, w19z, w19l, w20, w21, w22, w23, w24, w25, w26, w27, w28_1, w28_2, w28_3, w28_4, w28_5, w28_6, w29, w30i, w30z, w31, w32, w33, w34, w35, w36, w37_1, w37_2, w37_3, w37_4, w37_5, w37_6, isO_O, set1_0, set1_1i, set1_1r, set1_1n, set1_1l, set1_s, set2_0, set2_1i, set2_1r, set2_1n, set2_1l, set2_s, ldv_i, ldv_l, ldv_r, ldv_s, ldi_i, ldi_s, fK_0, fK_s, gfc_O, fS_0, fS_s, uH_s, uH_n, uH_u, tl_s, tl_n, b1_0, b1_1, ite_true, ite_false, if_true, if_false, List.length_nil, List.length_cons, Nat.zero_le, Nat.zero_add, Nat.reduceAdd, Nat.reduceLeDiff, Nat.reduceLT, Nat.reduceEqDiff, Nat.reduceMul, Nat.add_left_cancel_iff, not_false_eq_true, h22, h24, wIc_n hf (show 8 < 2 ^ 31 by decide)]
theorem R_income_loop {w : Int32} (h22 : h 22 = rO be (nI r) op (nI m)) (h23 : h 23 = aJ 8 ab) (h0 : h t = tO t (nI m) pu ye) (h3 : h (t + 3) = aI 8 ow) (hr : r < 256) (hm : m ≤ 8) : ∀ (e i : Nat), i + e = m → Wp none 10 qR_incomeAbove_5 [some (.ref 22), some (.ref t), some (.int w), some (.long (icF ab r be ow pu w i)), none, some (.int (nI i))] [] h Q = Q (some (.long (icF ab r be ow pu w m))) h := by
  intro e
  induction e with
  | zero =>
    intro i hi
    have e : i = m := by omega
    subst e
    have hc : nI i ≤ nI i := nI_le (Nat.le_refl i) (by omega)
    simp only [qR_incomeAbove_5, qR_incomeAbove_71, jR_incomeAbove_71, w0, w1, w2i, w2r, w3, w4, w5_0, w5_1, w5_2, w5_3, w5_4, w5_5, w5_6, w5_7, w5_8, w6_0, w6_1, w7_0, w7_1, w7_2, w7_3, w7_4, w7_5, w8_0, w8_1, w9_0, w9_1, w9_2, w10_0, w10_1, w10_2, w10_3, w10_4, w10_5, w11, w12_0, w12_1, w12_2, w12_3, w12_4, w12_5, w13_0, w13_1, w13_2, w13_3, w13_4, w13_5, w14, w15i, w15r, w16, w17, w18, w19i, w19z, w19l, w20, w21, w22, w23, w24, w25, w26, w27, w28_1, w28_2, w28_3, w28_4, w28_5, w28_6, w29, w30i, w30z, w31, w32, w33, w34, w35, w36, w37_1, w37_2, w37_3, w37_4, w37_5, w37_6, isO_O, set1_0, set1_1i, set1_1r, set1_1n, set1_1l, set1_s, set2_0, set2_1i, set2_1r, set2_1n, set2_1l, set2_s, ldv_i, ldv_l, ldv_r, ldv_s, ldi_i, ldi_s, fK_0, fK_s, gfc_O, fS_0, fS_s, uH_s, uH_n, uH_u, tl_s, tl_n, b1_0, b1_1, ite_true, ite_false, if_true, if_false, List.length_nil, List.length_cons, Nat.zero_le, Nat.zero_add, Nat.reduceAdd, Nat.reduceLeDiff, Nat.reduceLT, Nat.reduceEqDiff, Nat.reduceMul, Nat.add_left_cancel_iff, not_false_eq_true, h22, hc]
  | succ e ih =>
    intro i hi
    have hc : ¬ nI m ≤ nI i := nI_ge (by omega) (by omega)
    have i8 : i < 8 := by omega
    rw [qR_incomeAbove_5]
    simp only [qR_incomeAbove_65, jR_incomeAbove_65, jR_incomeAbove_5, w0, w1, w2i, w2r, w3, w4, w5_0, w5_1, w5_2, w5_3, w5_4, w5_5, w5_6, w5_7, w5_8, w6_0, w6_1, w7_0, w7_1, w7_2, w7_3, w7_4, w7_5, w8_0, w8_1, w9_0, w9_1, w9_2, w10_0, w10_1, w10_2, w10_3, w10_4, w10_5, w11, w12_0, w12_1, w12_2, w12_3, w12_4, w12_5, w13_0, w13_1, w13_2, w13_3, w13_4, w13_5, w14, w15i, w15r, w16, w17, w18, w19i, w19z, w19l, w20, w21, w22, w23, w24, w25, w26, w27, w28_1, w28_2, w28_3, w28_4, w28_5, w28_6, w29, w30i, w30z, w31, w32, w33, w34, w35, w36, w37_1, w37_2, w37_3, w37_4, w37_5, w37_6, isO_O, set1_0, set1_1i, set1_1r, set1_1n, set1_1l, set1_s, set2_0, set2_1i, set2_1r, set2_1n, set2_1l, set2_s, ldv_i, ldv_l, ldv_r, ldv_s, ldi_i, ldi_s, fK_0, fK_s, gfc_O, fS_0, fS_s, uH_s, uH_n, uH_u, tl_s, tl_n, b1_0, b1_1, ite_true, ite_false, if_true, if_false, List.length_nil, List.length_cons, Nat.zero_le, Nat.zero_add, Nat.reduceAdd, Nat.reduceLeDiff, Nat.reduceLT, Nat.reduceEqDiff, Nat.reduceMul, Nat.add_left_cancel_iff, not_false_eq_true, h22, h23, h0, h3, hc, R_reaches h22 hr i8, z01, rIc_n i8 (show 8 < 2 ^ 31 by decide), rJc_n i8 (show 8 < 2 ^ 31 by decide), lg_cmp_gt, ne_eq, nI_1]
    have ih := ih (i + 1) (by omega)
    by_cases h1 : ow i = w
    · rw [if_neg (fun z => z h1)]
      by_cases hb : r.testBit i = true
      · rw [if_neg (fun z => z hb)]
        by_cases hg : pu.toInt64 * be < ab i
        · rw [if_pos hg]
          rw [icF, if_neg (fun z => by have := z.2.2; rw [fa_le64] at this; rw [fa_lt64] at hg; omega)] at ih
          exact ih
        · rw [if_neg hg]
          rw [icF, if_pos ⟨h1, hb, by rw [fa_lt64] at hg; rw [fa_le64]; omega⟩] at ih
          exact ih
      · rw [if_pos hb]
        rw [icF, if_neg (fun z => hb z.2.1)] at ih
        exact ih
    · rw [if_pos h1]
      rw [icF, if_neg (fun z => h1 z.1)] at ih
      exact ih
theorem R_incomeAbove {w : Int32} (h22 : h 22 = rO be (nI r) op (nI m)) (h23 : h 23 = aJ 8 ab) (h0 : h t = tO t (nI m) pu ye) (h3 : h (t + 3) = aI 8 ow) (hr : r < 256) (hm : m ≤ 8) : WpM 10 [.ref 22, .ref t, .int w] h Q = Q (some (.long (icF ab r be ow pu w m))) h := by
  rw [eR_incomeAbove]
  simp only [qR_incomeAbove_0, w0, w1, w2i, w2r, w3, w4, w5_0, w5_1, w5_2, w5_3, w5_4, w5_5, w5_6, w5_7, w5_8, w6_0, w6_1, w7_0, w7_1, w7_2, w7_3, w7_4, w7_5, w8_0, w8_1, w9_0, w9_1, w9_2, w10_0, w10_1, w10_2, w10_3, w10_4, w10_5, w11, w12_0, w12_1, w12_2, w12_3, w12_4, w12_5, w13_0, w13_1, w13_2, w13_3, w13_4, w13_5, w14, w15i, w15r, w16, w17, w18, w19i, w19z, w19l, w20, w21, w22, w23, w24, w25, w26, w27, w28_1, w28_2, w28_3, w28_4, w28_5, w28_6, w29, w30i, w30z, w31, w32, w33, w34, w35, w36, w37_1, w37_2, w37_3, w37_4, w37_5, w37_6, isO_O, set1_0, set1_1i, set1_1r, set1_1n, set1_1l, set1_s, set2_0, set2_1i, set2_1r, set2_1n, set2_1l, set2_s, ldv_i, ldv_l, ldv_r, ldv_s, ldi_i, ldi_s, fK_0, fK_s, gfc_O, fS_0, fS_s, uH_s, uH_n, uH_u, tl_s, tl_n, b1_0, b1_1, ite_true, ite_false, if_true, if_false, List.length_nil, List.length_cons, Nat.zero_le, Nat.zero_add, Nat.reduceAdd, Nat.reduceLeDiff, Nat.reduceLT, Nat.reduceEqDiff, Nat.reduceMul, Nat.add_left_cancel_iff, not_false_eq_true]
  exact R_income_loop h22 h23 h0 h3 hr hm m 0 (by omega)
theorem R_areNear_loop {pe : Int32} (h22 : h 22 = rO be (nI r) op (nI m)) (h23 : h 23 = aJ 8 ab) (h0 : h t = tO t (nI m) pu ye) (h2 : h (t + 2) = aI 8 as) (hr : r < 256) (hm : m ≤ 8) : ∀ (e i : Nat), i + e = m → Wp none 11 qR_areNear_2 [some (.ref 22), some (.ref t), some (.int pe), some (.int (nI i))] [] h Q = ((∃ z : Int32, (z = 1 ∧ ∀ k, i ≤ k → k < m → anF ab r be as pe k) ∧ Q (some (.int z)) h) ∨ (∃ z : Int32, (z = 0 ∧ ∃ k, i ≤ k ∧ k < m ∧ ¬ anF ab r be as pe k) ∧ Q (some (.int z)) h)) := by
  intro e
  induction e with
  | zero =>
    intro i hi
    have e : i = m := by omega
    subst e
    have hc : nI i ≤ nI i := nI_le (Nat.le_refl i) (by omega)
    simp only [qR_areNear_2, qR_areNear_59, jR_areNear_59, w0, w1, w2i, w2r, w3, w4, w5_0, w5_1, w5_2, w5_3, w5_4, w5_5, w5_6, w5_7, w5_8, w6_0, w6_1, w7_0, w7_1, w7_2, w7_3, w7_4, w7_5, w8_0, w8_1, w9_0, w9_1, w9_2, w10_0, w10_1, w10_2, w10_3, w10_4, w10_5, w11, w12_0, w12_1, w12_2, w12_3, w12_4, w12_5, w13_0, w13_1, w13_2, w13_3, w13_4, w13_5, w14, w15i, w15r, w16, w17, w18, w19i, w19z, w19l, w20, w21, w22, w23, w24, w25, w26, w27, w28_1, w28_2, w28_3, w28_4, w28_5, w28_6, w29, w30i, w30z, w31, w32, w33, w34, w35, w36, w37_1, w37_2, w37_3, w37_4, w37_5, w37_6, isO_O, set1_0, set1_1i, set1_1r, set1_1n, set1_1l, set1_s, set2_0, set2_1i, set2_1r, set2_1n, set2_1l, set2_s, ldv_i, ldv_l, ldv_r, ldv_s, ldi_i, ldi_s, fK_0, fK_s, gfc_O, fS_0, fS_s, uH_s, uH_n, uH_u, tl_s, tl_n, b1_0, b1_1, ite_true, ite_false, if_true, if_false, List.length_nil, List.length_cons, Nat.zero_le, Nat.zero_add, Nat.reduceAdd, Nat.reduceLeDiff, Nat.reduceLT, Nat.reduceEqDiff, Nat.reduceMul, Nat.add_left_cancel_iff, not_false_eq_true, h22, hc]
    apply propext
    constructor
    · intro z; exact Or.inl ⟨1, ⟨rfl, fun k h1 h2 => by omega⟩, z⟩
    · rintro (⟨z, ⟨rfl, -⟩, hq⟩ | ⟨z, ⟨rfl, k, h1, h2, -⟩, hq⟩)
      · exact hq
      · omega
  | succ e ih =>
    intro i hi
    have hc : ¬ nI m ≤ nI i := nI_ge (by omega) (by omega)
    have i8 : i < 8 := by omega
    rw [qR_areNear_2]
    simp only [qR_areNear_53, jR_areNear_53, jR_areNear_2, w0, w1, w2i, w2r, w3, w4, w5_0, w5_1, w5_2, w5_3, w5_4, w5_5, w5_6, w5_7, w5_8, w6_0, w6_1, w7_0, w7_1, w7_2, w7_3, w7_4, w7_5, w8_0, w8_1, w9_0, w9_1, w9_2, w10_0, w10_1, w10_2, w10_3, w10_4, w10_5, w11, w12_0, w12_1, w12_2, w12_3, w12_4, w12_5, w13_0, w13_1, w13_2, w13_3, w13_4, w13_5, w14, w15i, w15r, w16, w17, w18, w19i, w19z, w19l, w20, w21, w22, w23, w24, w25, w26, w27, w28_1, w28_2, w28_3, w28_4, w28_5, w28_6, w29, w30i, w30z, w31, w32, w33, w34, w35, w36, w37_1, w37_2, w37_3, w37_4, w37_5, w37_6, isO_O, set1_0, set1_1i, set1_1r, set1_1n, set1_1l, set1_s, set2_0, set2_1i, set2_1r, set2_1n, set2_1l, set2_s, ldv_i, ldv_l, ldv_r, ldv_s, ldi_i, ldi_s, fK_0, fK_s, gfc_O, fS_0, fS_s, uH_s, uH_n, uH_u, tl_s, tl_n, b1_0, b1_1, ite_true, ite_false, if_true, if_false, List.length_nil, List.length_cons, Nat.zero_le, Nat.zero_add, Nat.reduceAdd, Nat.reduceLeDiff, Nat.reduceLT, Nat.reduceEqDiff, Nat.reduceMul, Nat.add_left_cancel_iff, not_false_eq_true, h22, h23, h0, h2, hc, R_reaches h22 hr i8, z01, rIc_n i8 (show 8 < 2 ^ 31 by decide), rJc_n i8 (show 8 < 2 ^ 31 by decide), lg_cmp_le, nI_1]
    rw [ih (i + 1) (by omega)]
    by_cases ha : anF ab r be as pe i
    · have e1 : (∀ k, i + 1 ≤ k → k < m → anF ab r be as pe k) ↔ (∀ k, i ≤ k → k < m → anF ab r be as pe k) := by
        constructor
        · intro hh k h1 h2
          rcases Nat.lt_or_ge i k with h3 | h3
          · exact hh k h3 h2
          · have : k = i := by omega
            subst this; exact ha
        · intro hh k h1 h2; exact hh k (by omega) h2
      have e2 : (∃ k, i + 1 ≤ k ∧ k < m ∧ ¬ anF ab r be as pe k) ↔ (∃ k, i ≤ k ∧ k < m ∧ ¬ anF ab r be as pe k) := by
        constructor
        · rintro ⟨k, h1, h2, h3⟩; exact ⟨k, by omega, h2, h3⟩
        · rintro ⟨k, h1, h2, h3⟩
          rcases Nat.lt_or_ge i k with h4 | h4
          · exact ⟨k, h4, h2, h3⟩
          · have : k = i := by omega
            subst this; exact absurd ha h3
      rw [e1, e2]
      by_cases hb : r.testBit i = true
      · rw [if_neg (fun z => z hb), if_pos (ha hb)]
      · rw [if_pos hb]
    · have hb : r.testBit i = true := Classical.byContradiction fun z => ha (fun y => absurd y z)
      have hn : ¬ (if 0 < (as i).toInt64 * be - ab i then (as i).toInt64 * be - ab i else -((as i).toInt64 * be - ab i)) ≤ pe.toInt64 * be := fun z => ha (fun _ => z)
      rw [if_neg (fun z => z hb), if_neg hn]
      apply propext
      constructor
      · intro z; exact Or.inr ⟨0, ⟨rfl, i, Nat.le_refl i, by omega, ha⟩, z⟩
      · rintro (⟨z, ⟨rfl, hh⟩, hq⟩ | ⟨z, ⟨rfl, -⟩, hq⟩)
        · exact absurd (hh i (Nat.le_refl i) (by omega)) ha
        · exact hq
def nrB (ab : Nat → Int64) (r : Nat) (be : Int64) (as : Nat → Int32) (pe : Int32) (m : Nat) : Prop := ∀ k, k < m → anF ab r be as pe k
theorem R_areNear_1 {pe : Int32} (h22 : h 22 = rO be (nI r) op (nI m)) (h23 : h 23 = aJ 8 ab) (h0 : h t = tO t (nI m) pu ye) (h2 : h (t + 2) = aI 8 as) (hr : r < 256) (hm : m ≤ 8) (hn : nrB ab r be as pe m) : WpM 11 [.ref 22, .ref t, .int pe] h Q = Q (some (.int 1)) h := by
  rw [eR_areNear]
  simp only [qR_areNear_0, w0, w1, w2i, w2r, w3, w4, w5_0, w5_1, w5_2, w5_3, w5_4, w5_5, w5_6, w5_7, w5_8, w6_0, w6_1, w7_0, w7_1, w7_2, w7_3, w7_4, w7_5, w8_0, w8_1, w9_0, w9_1, w9_2, w10_0, w10_1, w10_2, w10_3, w10_4, w10_5, w11, w12_0, w12_1, w12_2, w12_3, w12_4, w12_5, w13_0, w13_1, w13_2, w13_3, w13_4, w13_5, w14, w15i, w15r, w16, w17, w18, w19i, w19z, w19l, w20, w21, w22, w23, w24, w25, w26, w27, w28_1, w28_2, w28_3, w28_4, w28_5, w28_6, w29, w30i, w30z, w31, w32, w33, w34, w35, w36, w37_1, w37_2, w37_3, w37_4, w37_5, w37_6, isO_O, set1_0, set1_1i, set1_1r, set1_1n, set1_1l, set1_s, set2_0, set2_1i, set2_1r, set2_1n, set2_1l, set2_s, ldv_i, ldv_l, ldv_r, ldv_s, ldi_i, ldi_s, fK_0, fK_s, gfc_O, fS_0, fS_s, uH_s, uH_n, uH_u, tl_s, tl_n, b1_0, b1_1, ite_true, ite_false, if_true, if_false, List.length_nil, List.length_cons, Nat.zero_le, Nat.zero_add, Nat.reduceAdd, Nat.reduceLeDiff, Nat.reduceLT, Nat.reduceEqDiff, Nat.reduceMul, Nat.add_left_cancel_iff, not_false_eq_true]
  have e := R_areNear_loop (Q := Q) (pe := pe) h22 h23 h0 h2 hr hm m 0 (by omega)
  rw [show nI 0 = 0 from rfl] at e
  rw [e]
  apply propext
  constructor
  · rintro (⟨z, ⟨rfl, -⟩, hq⟩ | ⟨z, ⟨rfl, k, h1, h2, h3⟩, hq⟩)
    · exact hq
    · exact absurd (hn k h2) h3
  · intro hq; exact Or.inl ⟨1, ⟨rfl, fun k _ h => hn k h⟩, hq⟩
theorem R_areNear_0 {pe : Int32} (h22 : h 22 = rO be (nI r) op (nI m)) (h23 : h 23 = aJ 8 ab) (h0 : h t = tO t (nI m) pu ye) (h2 : h (t + 2) = aI 8 as) (hr : r < 256) (hm : m ≤ 8) (hn : ¬ nrB ab r be as pe m) : WpM 11 [.ref 22, .ref t, .int pe] h Q = Q (some (.int 0)) h := by
  rw [eR_areNear]
  simp only [qR_areNear_0, w0, w1, w2i, w2r, w3, w4, w5_0, w5_1, w5_2, w5_3, w5_4, w5_5, w5_6, w5_7, w5_8, w6_0, w6_1, w7_0, w7_1, w7_2, w7_3, w7_4, w7_5, w8_0, w8_1, w9_0, w9_1, w9_2, w10_0, w10_1, w10_2, w10_3, w10_4, w10_5, w11, w12_0, w12_1, w12_2, w12_3, w12_4, w12_5, w13_0, w13_1, w13_2, w13_3, w13_4, w13_5, w14, w15i, w15r, w16, w17, w18, w19i, w19z, w19l, w20, w21, w22, w23, w24, w25, w26, w27, w28_1, w28_2, w28_3, w28_4, w28_5, w28_6, w29, w30i, w30z, w31, w32, w33, w34, w35, w36, w37_1, w37_2, w37_3, w37_4, w37_5, w37_6, isO_O, set1_0, set1_1i, set1_1r, set1_1n, set1_1l, set1_s, set2_0, set2_1i, set2_1r, set2_1n, set2_1l, set2_s, ldv_i, ldv_l, ldv_r, ldv_s, ldi_i, ldi_s, fK_0, fK_s, gfc_O, fS_0, fS_s, uH_s, uH_n, uH_u, tl_s, tl_n, b1_0, b1_1, ite_true, ite_false, if_true, if_false, List.length_nil, List.length_cons, Nat.zero_le, Nat.zero_add, Nat.reduceAdd, Nat.reduceLeDiff, Nat.reduceLT, Nat.reduceEqDiff, Nat.reduceMul, Nat.add_left_cancel_iff, not_false_eq_true]
  have e := R_areNear_loop (Q := Q) (pe := pe) h22 h23 h0 h2 hr hm m 0 (by omega)
  rw [show nI 0 = 0 from rfl] at e
  rw [e]
  apply propext
  constructor
  · rintro (⟨z, ⟨rfl, hh⟩, hq⟩ | ⟨z, ⟨rfl, -⟩, hq⟩)
    · exact absurd (fun k h => hh k (Nat.zero_le k) h) hn
    · exact hq
  · intro hq
    refine Or.inr ⟨0, ⟨rfl, ?_⟩, hq⟩
    exact Classical.byContradiction fun z => hn (fun k hk => Classical.byContradiction fun y => z ⟨k, Nat.zero_le k, hk, y⟩)
end RENTS2

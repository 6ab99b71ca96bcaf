/-! the reference: solves -/
section MS2
variable {h : AH} {Q : Option Value → AH → Prop} {ho pu ye bo ta ax wr : Int32} {be : Int64} {kn pr im : Int32} {ki as ow ca sh th f : Nat → Int32} {rw su ab : Nat → Int64} {m b r : Nat} {w : Int32}
theorem M_solves_id {i : Nat} {x4 x5 x6 : Option Value} (hm : m ≤ 8) (hi : i < 8) : ∀ (e j : Nat) (h : AH), j + e = m → h 39 = mO (nI m) pu ye bo ta ax wr be kn pr im → h 48 = aJ 64 (miI rw i j) → Wp none 111 qM_solves_20 [some (.ref 39), some (.int w), some (.int (nI i)), some (.int (nI j)), x4, x5, x6] [] h Q = Wp none 111 qM_solves_55 [some (.ref 39), some (.int w), some (.int (nI i)), some (.int (nI m)), x4, x5, x6] [] (uH h 48 (aJ 64 (miI rw i m))) Q := by
  intro e
  induction e with
  | zero =>
    intro j h hj h39 h48
    have e : j = m := by omega
    subst e
    have hc : nI j ≤ nI j := nI_le (Nat.le_refl j) (by omega)
    rw [qM_solves_20]
    simp only [jM_solves_55, w0, w1, w2i, w2r, w3, w4, w5_0, w5_1, w5_2, w5_3, w5_4, w5_5, w5_6, w5_7, w5_8, w6_0, w6_1, w7_0, w7_1, w7_2, w7_3, w7_4, w7_5, w8_0, w8_1, w9_0, w9_1, w9_2, w10_0, w10_1, w10_2, w10_3, w10_4, w10_5, w11, w12_0, w12_1, w12_2, w12_3, w12_4, w12_5, w13_0, w13_1, w13_2, w13_3, w13_4, w13_5, w14, w15i, w15r, w16, w17, w18, w19i, w19z, w19l, w20, w21, w22, w23, w24, w25, w26, w27, w28_1, w28_2, w28_3, w28_4, w28_5, w28_6, w29, w30i, w30z, w31, w32, w33, w34, w35, w36, w37_1, w37_2, w37_3, w37_4, w37_5, w37_6, isO_O, set1_0, set1_1i, set1_1r, set1_1n, set1_1l, set1_s, set2_0, set2_1i, set2_1r, set2_1n, set2_1l, set2_s, ldv_i, ldv_l, ldv_r, ldv_s, ldi_i, ldi_s, fK_0, fK_s, gfc_O, fS_0, fS_s, uH_s, uH_n, uH_u, tl_s, tl_n, b1_0, b1_1, ite_true, ite_false, if_true, if_false, List.length_nil, List.length_cons, Nat.zero_le, Nat.zero_add, Nat.reduceAdd, Nat.reduceLeDiff, Nat.reduceLT, Nat.reduceEqDiff, Nat.reduceMul, Nat.add_left_cancel_iff, not_false_eq_true, h39, hc]
    rw [uH_id h h48]
  | succ e ih =>
    intro j h hj h39 h48
    have hc : ¬ nI m ≤ nI j := nI_ge (by omega) (by omega)
    have ih := fun v (hv : v = if i = j then (1 : Int64) else 0) => ih (j + 1) (uH h 48 (aJ 64 (vp_updL (miI rw i j) (8 * i + j) v))) (by omega) (by rw [uH_n _ _ (by decide)]; exact h39) (by rw [uH_s, miI, hv])
    rw [qM_solves_20]
    simp only [qM_solves_47, jM_solves_47, qM_solves_48, jM_solves_48, jM_solves_20, w0, w1, w2i, w2r, w3, w4, w5_0, w5_1, w5_2, w5_3, w5_4, w5_5, w5_6, w5_7, w5_8, w6_0, w6_1, w7_0, w7_1, w7_2, w7_3, w7_4, w7_5, w8_0, w8_1, w9_0, w9_1, w9_2, w10_0, w10_1, w10_2, w10_3, w10_4, w10_5, w11, w12_0, w12_1, w12_2, w12_3, w12_4, w12_5, w13_0, w13_1, w13_2, w13_3, w13_4, w13_5, w14, w15i, w15r, w16, w17, w18, w19i, w19z, w19l, w20, w21, w22, w23, w24, w25, w26, w27, w28_1, w28_2, w28_3, w28_4, w28_5, w28_6, w29, w30i, w30z, w31, w32, w33, w34, w35, w36, w37_1, w37_2, w37_3, w37_4, w37_5, w37_6, isO_O, set1_0, set1_1i, set1_1r, set1_1n, set1_1l, set1_s, set2_0, set2_1i, set2_1r, set2_1n, set2_1l, set2_s, ldv_i, ldv_l, ldv_r, ldv_s, ldi_i, ldi_s, fK_0, fK_s, gfc_O, fS_0, fS_s, uH_s, uH_n, uH_u, tl_s, tl_n, b1_0, b1_1, ite_true, ite_false, if_true, if_false, List.length_nil, List.length_cons, Nat.zero_le, Nat.zero_add, Nat.reduceAdd, Nat.reduceLeDiff, Nat.reduceLT, Nat.reduceEqDiff, Nat.reduceMul, Nat.add_left_cancel_iff, not_false_eq_true, h39, h48, hc, ne_eq, nI_eq (show i < 2 ^ 31 by omega) (show j < 2 ^ 31 by omega), n8a, nI_1, wJc_n (show 8 * i + j < 64 by omega) (show 64 < 2 ^ 31 by decide)]
    by_cases hij : i = j
    · rw [if_neg (fun z => z hij), ih 1 (by rw [if_pos hij]), uH_u]
    · rw [if_pos hij, ih 0 (by rw [if_neg hij]), uH_u]
theorem M_solves_wt {i : Nat} {fv : Int64} (hm : m ≤ 8) (hi : i < 8) : ∀ (e j : Nat) (h : AH), j + e = m → h 39 = mO (nI m) pu ye bo ta ax wr be kn pr im → h 44 = aI 64 sh → h 48 = aJ 64 (mwI rw sh i m j) → Wp none 111 qM_solves_156 [some (.ref 39), some (.int w), some (.int (nI i)), some (.long fv), none, some (.int 1), some (.int (nI j))] [] h Q = Wp none 111 qM_solves_212 [some (.ref 39), some (.int w), some (.int (nI i)), some (.long fv), none, some (.int 1), some (.int (nI m))] [] (uH h 48 (aJ 64 (mwI rw sh i m m))) Q := by
  intro e
  induction e with
  | zero =>
    intro j h hj h39 h44 h48
    have e : j = m := by omega
    subst e
    have hc : nI j ≤ nI j := nI_le (Nat.le_refl j) (by omega)
    rw [qM_solves_156]
    simp only [jM_solves_212, w0, w1, w2i, w2r, w3, w4, w5_0, w5_1, w5_2, w5_3, w5_4, w5_5, w5_6, w5_7, w5_8, w6_0, w6_1, w7_0, w7_1, w7_2, w7_3, w7_4, w7_5, w8_0, w8_1, w9_0, w9_1, w9_2, w10_0, w10_1, w10_2, w10_3, w10_4, w10_5, w11, w12_0, w12_1, w12_2, w12_3, w12_4, w12_5, w13_0, w13_1, w13_2, w13_3, w13_4, w13_5, w14, w15i, w15r, w16, w17, w18, w19i, w19z, w19l, w20, w21, w22, w23, w24, w25, w26, w27, w28_1, w28_2, w28_3, w28_4, w28_5, w28_6, w29, w30i, w30z, w31, w32, w33, w34, w35, w36, w37_1, w37_2, w37_3, w37_4, w37_5, w37_6, isO_O, set1_0, set1_1i, set1_1r, set1_1n, set1_1l, set1_s, set2_0, set2_1i, set2_1r, set2_1n, set2_1l, set2_s, ldv_i, ldv_l, ldv_r, ldv_s, ldi_i, ldi_s, fK_0, fK_s, gfc_O, fS_0, fS_s, uH_s, uH_n, uH_u, tl_s, tl_n, b1_0, b1_1, ite_true, ite_false, if_true, if_false, List.length_nil, List.length_cons, Nat.zero_le, Nat.zero_add, Nat.reduceAdd, Nat.reduceLeDiff, Nat.reduceLT, Nat.reduceEqDiff, Nat.reduceMul, Nat.add_left_cancel_iff, not_false_eq_true, h39, hc]
    rw [uH_id h h48]
  | succ e ih =>
    intro j h hj h39 h44 h48
    have hc : ¬ nI m ≤ nI j := nI_ge (by omega) (by omega)
    have ih := fun v (hv : v = if i = j then (wt sh i m).toInt64 else (-(sh (8 * i + j))).toInt64) => ih (j + 1) (uH h 48 (aJ 64 (vp_updL (mwI rw sh i m j) (8 * i + j) v))) (by omega) (by rw [uH_n _ _ (by decide)]; exact h39) (by rw [uH_n _ _ (by decide)]; exact h44) (by rw [uH_s, mwI, hv])
    rw [qM_solves_156]
    simp only [qM_solves_191, jM_solves_191, qM_solves_205, jM_solves_205, jM_solves_156, w0, w1, w2i, w2r, w3, w4, w5_0, w5_1, w5_2, w5_3, w5_4, w5_5, w5_6, w5_7, w5_8, w6_0, w6_1, w7_0, w7_1, w7_2, w7_3, w7_4, w7_5, w8_0, w8_1, w9_0, w9_1, w9_2, w10_0, w10_1, w10_2, w10_3, w10_4, w10_5, w11, w12_0, w12_1, w12_2, w12_3, w12_4, w12_5, w13_0, w13_1, w13_2, w13_3, w13_4, w13_5, w14, w15i, w15r, w16, w17, w18, w19i, w19z, w19l, w20, w21, w22, w23, w24, w25, w26, w27, w28_1, w28_2, w28_3, w28_4, w28_5, w28_6, w29, w30i, w30z, w31, w32, w33, w34, w35, w36, w37_1, w37_2, w37_3, w37_4, w37_5, w37_6, isO_O, set1_0, set1_1i, set1_1r, set1_1n, set1_1l, set1_s, set2_0, set2_1i, set2_1r, set2_1n, set2_1l, set2_s, ldv_i, ldv_l, ldv_r, ldv_s, ldi_i, ldi_s, fK_0, fK_s, gfc_O, fS_0, fS_s, uH_s, uH_n, uH_u, tl_s, tl_n, b1_0, b1_1, ite_true, ite_false, if_true, if_false, List.length_nil, List.length_cons, Nat.zero_le, Nat.zero_add, Nat.reduceAdd, Nat.reduceLeDiff, Nat.reduceLT, Nat.reduceEqDiff, Nat.reduceMul, Nat.add_left_cancel_iff, not_false_eq_true, h39, h44, h48, hc, ne_eq, nI_eq (show i < 2 ^ 31 by omega) (show j < 2 ^ 31 by omega), n8a, nI_1, M_weight h39 h44 hm hi, rIc_n (show 8 * i + j < 64 by omega) (show 64 < 2 ^ 31 by decide), wJc_n (show 8 * i + j < 64 by omega) (show 64 < 2 ^ 31 by decide)]
    by_cases hij : i = j
    · rw [if_neg (fun z => z hij), ih _ (by rw [if_pos hij]), uH_u]
    · rw [if_pos hij, ih _ (by rw [if_neg hij]), uH_u]
theorem M_isFixed_1 {a : Nat} (h39 : h 39 = mO ho pu ye (nI b) ta ax wr be kn pr im) (h40 : h 40 = aI 8 ki) (hb : b < 256) (ha : a < 8) (hf : ki a = 1 ∨ ki a = 3 ∨ b.testBit a = true) : WpM 97 [.ref 39, .int (nI a)] h Q = Q (some (.int 1)) h := by
  rw [M_isFixed h39 h40 hb ha, if_neg (fun z => z hf)]
theorem M_isFixed_0 {a : Nat} (h39 : h 39 = mO ho pu ye (nI b) ta ax wr be kn pr im) (h40 : h 40 = aI 8 ki) (hb : b < 256) (ha : a < 8) (hf : ¬ (ki a = 1 ∨ ki a = 3 ∨ b.testBit a = true)) : WpM 97 [.ref 39, .int (nI a)] h Q = Q (some (.int 0)) h := by
  rw [M_isFixed h39 h40 hb ha, if_pos hf]
/-- from the value of a fixed house on: what is done for one house -/
theorem M_solves_101 {i : Nat} {fv : Int64} {x3 : Int32} {x4 x5 x6 : Option Value} (h39 : h 39 = mO (nI m) pu ye (nI b) ta ax wr be (nI r) pr im) (h40 : h 40 = aI 8 ki) (h44 : h 44 = aI 64 sh) (h48 : h 48 = aJ 64 rw) (h49 : h 49 = aJ 8 su) (hm : m ≤ 8) (hb : b < 256) (hr : r < 256) (hi : i < 8) : ∃ y3 y4 y5 y6 : Option Value, Wp none 111 qM_solves_101 [some (.ref 39), some (.int w), some (.int (nI i)), some (.int x3), x4, x5, x6] [.long fv] h Q = Wp none 111 qM_solves_10 [some (.ref 39), some (.int w), some (.int (nI (i + 1))), y3, y4, y5, y6] [] (if r.testBit i = true ∧ ¬ (ki i = 1 ∨ ki i = 3 ∨ b.testBit i = true) then uH (uH h 48 (aJ 64 (mwI rw sh i m m))) 49 (aJ 8 (vp_updL su i (if w < 0 then (wt sh i m).toInt64 else 0))) else uH h 49 (aJ 8 (vp_updL su i (if ki i = 1 ∨ ki i = 3 ∨ b.testBit i = true then fv else 0)))) Q := by
  by_cases hf : ki i = 1 ∨ ki i = 3 ∨ b.testBit i = true
  · refine ⟨some (.long fv), none, some (.int 0), x6, ?_⟩
    rw [if_neg (fun z => z.2 hf), if_pos hf, qM_solves_101]
    simp only [qM_solves_126, jM_solves_126, qM_solves_127, jM_solves_127, qM_solves_146, jM_solves_146, qM_solves_147, jM_solves_147, qM_solves_232, jM_solves_232, jM_solves_10, w0, w1, w2i, w2r, w3, w4, w5_0, w5_1, w5_2, w5_3, w5_4, w5_5, w5_6, w5_7, w5_8, w6_0, w6_1, w7_0, w7_1, w7_2, w7_3, w7_4, w7_5, w8_0, w8_1, w9_0, w9_1, w9_2, w10_0, w10_1, w10_2, w10_3, w10_4, w10_5, w11, w12_0, w12_1, w12_2, w12_3, w12_4, w12_5, w13_0, w13_1, w13_2, w13_3, w13_4, w13_5, w14, w15i, w15r, w16, w17, w18, w19i, w19z, w19l, w20, w21, w22, w23, w24, w25, w26, w27, w28_1, w28_2, w28_3, w28_4, w28_5, w28_6, w29, w30i, w30z, w31, w32, w33, w34, w35, w36, w37_1, w37_2, w37_3, w37_4, w37_5, w37_6, isO_O, set1_0, set1_1i, set1_1r, set1_1n, set1_1l, set1_s, set2_0, set2_1i, set2_1r, set2_1n, set2_1l, set2_s, ldv_i, ldv_l, ldv_r, ldv_s, ldi_i, ldi_s, fK_0, fK_s, gfc_O, fS_0, fS_s, uH_s, uH_n, uH_u, tl_s, tl_n, b1_0, b1_1, ite_true, ite_false, if_true, if_false, List.length_nil, List.length_cons, Nat.zero_le, Nat.zero_add, Nat.reduceAdd, Nat.reduceLeDiff, Nat.reduceLT, Nat.reduceEqDiff, Nat.reduceMul, Nat.add_left_cancel_iff, not_false_eq_true, h39, h49, M_isFixed_1 h39 h40 hb hi hf, ne_eq, not_true_eq_false, not_false_eq_true, wJc_n hi (show 8 < 2 ^ 31 by decide), nI_1, show ¬ (1 : Int32) = 0 by decide]
  · by_cases hk : r.testBit i = true
    · refine ⟨some (.long fv), none, some (.int 1), some (.int (nI m)), ?_⟩
      rw [if_pos ⟨hk, hf⟩, qM_solves_101]
      have g39 : (uH h 49 (aJ 8 (vp_updL su i 0))) 39 = mO (nI m) pu ye (nI b) ta ax wr be (nI r) pr im := by rw [uH_n _ _ (by decide)]; exact h39
      have g44 : (uH h 49 (aJ 8 (vp_updL su i 0))) 44 = aI 64 sh := by rw [uH_n _ _ (by decide)]; exact h44
      have g48 : (uH h 49 (aJ 8 (vp_updL su i 0))) 48 = aJ 64 rw := by rw [uH_n _ _ (by decide)]; exact h48
      have e2 := M_solves_wt (Q := Q) (w := w) (fv := fv) hm hi m 0 _ (by omega) g39 g44 g48
      rw [show nI 0 = 0 from rfl] at e2
      simp only [qM_solves_126, jM_solves_126, qM_solves_127, jM_solves_127, qM_solves_146, jM_solves_146, qM_solves_147, jM_solves_147, qM_solves_232, jM_solves_232, w0, w1, w2i, w2r, w3, w4, w5_0, w5_1, w5_2, w5_3, w5_4, w5_5, w5_6, w5_7, w5_8, w6_0, w6_1, w7_0, w7_1, w7_2, w7_3, w7_4, w7_5, w8_0, w8_1, w9_0, w9_1, w9_2, w10_0, w10_1, w10_2, w10_3, w10_4, w10_5, w11, w12_0, w12_1, w12_2, w12_3, w12_4, w12_5, w13_0, w13_1, w13_2, w13_3, w13_4, w13_5, w14, w15i, w15r, w16, w17, w18, w19i, w19z, w19l, w20, w21, w22, w23, w24, w25, w26, w27, w28_1, w28_2, w28_3, w28_4, w28_5, w28_6, w29, w30i, w30z, w31, w32, w33, w34, w35, w36, w37_1, w37_2, w37_3, w37_4, w37_5, w37_6, isO_O, set1_0, set1_1i, set1_1r, set1_1n, set1_1l, set1_s, set2_0, set2_1i, set2_1r, set2_1n, set2_1l, set2_s, ldv_i, ldv_l, ldv_r, ldv_s, ldi_i, ldi_s, fK_0, fK_s, gfc_O, fS_0, fS_s, uH_s, uH_n, uH_u, tl_s, tl_n, b1_0, b1_1, ite_true, ite_false, if_true, if_false, List.length_nil, List.length_cons, Nat.zero_le, Nat.zero_add, Nat.reduceAdd, Nat.reduceLeDiff, Nat.reduceLT, Nat.reduceEqDiff, Nat.reduceMul, Nat.add_left_cancel_iff, not_false_eq_true, h39, h49, M_isFixed_0 h39 h40 hb hi hf, ne_eq, hk, bit1 (show r < 2 ^ 31 by omega) (show i < 31 by omega), not_true_eq_false, not_false_eq_true, wJc_n hi (show 8 < 2 ^ 31 by decide), show ¬ (1 : Int32) = 0 by decide]
      rw [e2]
      have k39 : (uH (uH h 49 (aJ 8 (vp_updL su i 0))) 48 (aJ 64 (mwI rw sh i m m))) 39 = mO (nI m) pu ye (nI b) ta ax wr be (nI r) pr im := by rw [uH_n _ _ (by decide)]; exact g39
      have k44 : (uH (uH h 49 (aJ 8 (vp_updL su i 0))) 48 (aJ 64 (mwI rw sh i m m))) 44 = aI 64 sh := by rw [uH_n _ _ (by decide)]; exact g44
      have hh : ∀ c, uH (uH (uH h 49 (aJ 8 (vp_updL su i 0))) 48 (aJ 64 (mwI rw sh i m m))) 49 c = uH (uH h 48 (aJ 64 (mwI rw sh i m m))) 49 c := fun c => by rw [uH_c h _ _ (show (49 : Nat) ≠ 48 by decide), uH_u]
      rw [qM_solves_212]
      simp only [qM_solves_230, jM_solves_230, qM_solves_231, jM_solves_231, qM_solves_232, jM_solves_232, jM_solves_10, w0, w1, w2i, w2r, w3, w4, w5_0, w5_1, w5_2, w5_3, w5_4, w5_5, w5_6, w5_7, w5_8, w6_0, w6_1, w7_0, w7_1, w7_2, w7_3, w7_4, w7_5, w8_0, w8_1, w9_0, w9_1, w9_2, w10_0, w10_1, w10_2, w10_3, w10_4, w10_5, w11, w12_0, w12_1, w12_2, w12_3, w12_4, w12_5, w13_0, w13_1, w13_2, w13_3, w13_4, w13_5, w14, w15i, w15r, w16, w17, w18, w19i, w19z, w19l, w20, w21, w22, w23, w24, w25, w26, w27, w28_1, w28_2, w28_3, w28_4, w28_5, w28_6, w29, w30i, w30z, w31, w32, w33, w34, w35, w36, w37_1, w37_2, w37_3, w37_4, w37_5, w37_6, isO_O, set1_0, set1_1i, set1_1r, set1_1n, set1_1l, set1_s, set2_0, set2_1i, set2_1r, set2_1n, set2_1l, set2_s, ldv_i, ldv_l, ldv_r, ldv_s, ldi_i, ldi_s, fK_0, fK_s, gfc_O, fS_0, fS_s, uH_s, uH_n, uH_u, tl_s, tl_n, b1_0, b1_1, ite_true, ite_false, if_true, if_false, List.length_nil, List.length_cons, Nat.zero_le, Nat.zero_add, Nat.reduceAdd, Nat.reduceLeDiff, Nat.reduceLT, Nat.reduceEqDiff, Nat.reduceMul, Nat.add_left_cancel_iff, not_false_eq_true, h39, M_weight k39 k44 hm hi, wJc_n hi (show 8 < 2 ^ 31 by decide), updL_uu, nI_1, hh]
      by_cases hw : w < 0
      · have hw2 : ¬ 0 ≤ w := (fa_of_lt hw).2.1
        rw [if_neg hw2, if_pos hw]
      · have hw2 : 0 ≤ w := fa_of_nlt hw
        rw [if_pos hw2, if_neg hw]
    · refine ⟨some (.long fv), none, some (.int 0), x6, ?_⟩
      rw [if_neg (fun z => hk z.1), if_neg hf, qM_solves_101]
      simp only [qM_solves_126, jM_solves_126, qM_solves_127, jM_solves_127, qM_solves_146, jM_solves_146, qM_solves_147, jM_solves_147, qM_solves_232, jM_solves_232, jM_solves_10, w0, w1, w2i, w2r, w3, w4, w5_0, w5_1, w5_2, w5_3, w5_4, w5_5, w5_6, w5_7, w5_8, w6_0, w6_1, w7_0, w7_1, w7_2, w7_3, w7_4, w7_5, w8_0, w8_1, w9_0, w9_1, w9_2, w10_0, w10_1, w10_2, w10_3, w10_4, w10_5, w11, w12_0, w12_1, w12_2, w12_3, w12_4, w12_5, w13_0, w13_1, w13_2, w13_3, w13_4, w13_5, w14, w15i, w15r, w16, w17, w18, w19i, w19z, w19l, w20, w21, w22, w23, w24, w25, w26, w27, w28_1, w28_2, w28_3, w28_4, w28_5, w28_6, w29, w30i, w30z, w31, w32, w33, w34, w35, w36, w37_1, w37_2, w37_3, w37_4, w37_5, w37_6, isO_O, set1_0, set1_1i, set1_1r, set1_1n, set1_1l, set1_s, set2_0, set2_1i, set2_1r, set2_1n, set2_1l, set2_s, ldv_i, ldv_l, ldv_r, ldv_s, ldi_i, ldi_s, fK_0, fK_s, gfc_O, fS_0, fS_s, uH_s, uH_n, uH_u, tl_s, tl_n, b1_0, b1_1, ite_true, ite_false, if_true, if_false, List.length_nil, List.length_cons, Nat.zero_le, Nat.zero_add, Nat.reduceAdd, Nat.reduceLeDiff, Nat.reduceLT, Nat.reduceEqDiff, Nat.reduceMul, Nat.add_left_cancel_iff, not_false_eq_true, h39, h49, M_isFixed_0 h39 h40 hb hi hf, ne_eq, bit1 (show r < 2 ^ 31 by omega) (show i < 31 by omega), not_true_eq_false, not_false_eq_true, wJc_n hi (show 8 < 2 ^ 31 by decide), nI_1]
      rw [if_pos hk]
theorem M_solves_fill (hm : m ≤ 8) (hb : b < 256) (hr : r < 256) : ∀ (e i : Nat) (h : AH) (x3 x4 x5 x6 : Option Value), i + e = m → h 39 = mO (nI m) pu ye (nI b) ta ax wr be (nI r) pr im → h 40 = aI 8 ki → h 41 = aI 8 as → h 44 = aI 64 sh → h 48 = aJ 64 (mfO rw su ki as sh b r pr w m i).1 → h 49 = aJ 8 (mfO rw su ki as sh b r pr w m i).2 → ∃ y3 y4 y5 y6 : Option Value, Wp none 111 qM_solves_10 [some (.ref 39), some (.int w), some (.int (nI i)), x3, x4, x5, x6] [] h Q = Wp none 111 qM_solves_238 [some (.ref 39), some (.int w), some (.int (nI m)), y3, y4, y5, y6] [] (uH (uH h 48 (aJ 64 (mfO rw su ki as sh b r pr w m m).1)) 49 (aJ 8 (mfO rw su ki as sh b r pr w m m).2)) Q := by
  intro e
  induction e with
  | zero =>
    intro i h x3 x4 x5 x6 hi h39 h40 h41 h44 h48 h49
    have e : i = m := by omega
    subst e
    have hc : nI i ≤ nI i := nI_le (Nat.le_refl i) (by omega)
    refine ⟨x3, x4, x5, x6, ?_⟩
    rw [qM_solves_10]
    simp only [jM_solves_238, w0, w1, w2i, w2r, w3, w4, w5_0, w5_1, w5_2, w5_3, w5_4, w5_5, w5_6, w5_7, w5_8, w6_0, w6_1, w7_0, w7_1, w7_2, w7_3, w7_4, w7_5, w8_0, w8_1, w9_0, w9_1, w9_2, w10_0, w10_1, w10_2, w10_3, w10_4, w10_5, w11, w12_0, w12_1, w12_2, w12_3, w12_4, w12_5, w13_0, w13_1, w13_2, w13_3, w13_4, w13_5, w14, w15i, w15r, w16, w17, w18, w19i, w19z, w19l, w20, w21, w22, w23, w24, w25, w26, w27, w28_1, w28_2, w28_3, w28_4, w28_5, w28_6, w29, w30i, w30z, w31, w32, w33, w34, w35, w36, w37_1, w37_2, w37_3, w37_4, w37_5, w37_6, isO_O, set1_0, set1_1i, set1_1r, set1_1n, set1_1l, set1_s, set2_0, set2_1i, set2_1r, set2_1n, set2_1l, set2_s, ldv_i, ldv_l, ldv_r, ldv_s, ldi_i, ldi_s, fK_0, fK_s, gfc_O, fS_0, fS_s, uH_s, uH_n, uH_u, tl_s, tl_n, b1_0, b1_1, ite_true, ite_false, if_true, if_false, List.length_nil, List.length_cons, Nat.zero_le, Nat.zero_add, Nat.reduceAdd, Nat.reduceLeDiff, Nat.reduceLT, Nat.reduceEqDiff, Nat.reduceMul, Nat.add_left_cancel_iff, not_false_eq_true, h39, hc]
    rw [uH_id h h48, uH_id h h49]
  | succ e ih =>
    intro i h x3 x4 x5 x6 hi h39 h40 h41 h44 h48 h49
    have hc : ¬ nI m ≤ nI i := nI_ge (by omega) (by omega)
    have i8 : i < 8 := by omega
    have e1 := M_solves_id (Q := Q) (w := w) (x4 := x4) (x5 := x5) (x6 := x6) (rw := (mfO rw su ki as sh b r pr w m i).1) hm i8 m 0 h (by omega) h39 h48
    rw [show nI 0 = 0 from rfl] at e1
    generalize hH : uH h 48 (aJ 64 (miI (mfO rw su ki as sh b r pr w m i).1 i m)) = h' at e1
    have g39 : h' 39 = mO (nI m) pu ye (nI b) ta ax wr be (nI r) pr im := by rw [← hH, uH_n _ _ (by decide)]; exact h39
    have g40 : h' 40 = aI 8 ki := by rw [← hH, uH_n _ _ (by decide)]; exact h40
    have g41 : h' 41 = aI 8 as := by rw [← hH, uH_n _ _ (by decide)]; exact h41
    have g44 : h' 44 = aI 64 sh := by rw [← hH, uH_n _ _ (by decide)]; exact h44
    have g48 : h' 48 = aJ 64 (miI (mfO rw su ki as sh b r pr w m i).1 i m) := by rw [← hH, uH_s]
    have g49 : h' 49 = aJ 8 (mfO rw su ki as sh b r pr w m i).2 := by rw [← hH, uH_n _ _ (by decide)]; exact h49
    obtain ⟨y3, y4, y5, y6, e2⟩ := M_solves_101 (Q := Q) (w := w) (fv := mfv as b pr w i) (x3 := nI m) (x4 := x4) (x5 := x5) (x6 := x6) g39 g40 g44 g48 g49 hm hb hr i8
    have e3 : Wp none 111 qM_solves_55 [some (.ref 39), some (.int w), some (.int (nI i)), some (.int (nI m)), x4, x5, x6] [] h' Q = Wp none 111 qM_solves_101 [some (.ref 39), some (.int w), some (.int (nI i)), some (.int (nI m)), x4, x5, x6] [.long (mfv as b pr w i)] h' Q := by
      rw [qM_solves_55]
      have hone : (1 : Int32) + nI i = nI (1 + i) := by rw [show (1 : Int32) = nI 1 from rfl, nI_add]
      simp only [qM_solves_79, jM_solves_79, qM_solves_89, jM_solves_89, qM_solves_100, jM_solves_100, jM_solves_101, w0, w1, w2i, w2r, w3, w4, w5_0, w5_1, w5_2, w5_3, w5_4, w5_5, w5_6, w5_7, w5_8, w6_0, w6_1, w7_0, w7_1, w7_2, w7_3, w7_4, w7_5, w8_0, w8_1, w9_0, w9_1, w9_2, w10_0, w10_1, w10_2, w10_3, w10_4, w10_5, w11, w12_0, w12_1, w12_2, w12_3, w12_4, w12_5, w13_0, w13_1, w13_2, w13_3, w13_4, w13_5, w14, w15i, w15r, w16, w17, w18, w19i, w19z, w19l, w20, w21, w22, w23, w24, w25, w26, w27, w28_1, w28_2, w28_3, w28_4, w28_5, w28_6, w29, w30i, w30z, w31, w32, w33, w34, w35, w36, w37_1, w37_2, w37_3, w37_4, w37_5, w37_6, isO_O, set1_0, set1_1i, set1_1r, set1_1n, set1_1l, set1_s, set2_0, set2_1i, set2_1r, set2_1n, set2_1l, set2_s, ldv_i, ldv_l, ldv_r, ldv_s, ldi_i, ldi_s, fK_0, fK_s, gfc_O, fS_0, fS_s, uH_s, uH_n, uH_u, tl_s, tl_n, b1_0, b1_1, ite_true, ite_false, if_true, if_false, List.length_nil, List.length_cons, Nat.zero_le, Nat.zero_add, Nat.reduceAdd, Nat.reduceLeDiff, Nat.reduceLT, Nat.reduceEqDiff, Nat.reduceMul, Nat.add_left_cancel_iff, not_false_eq_true, g39, g41, ne_eq, bit1 (show b < 2 ^ 31 by omega) (show i < 31 by omega), rIc_n i8 (show 8 < 2 ^ 31 by decide), hone]
      unfold mfv
      by_cases hw : w = 0
      · by_cases hbb : b.testBit i = true
        · simp [hw, hbb]
        · simp [hw, hbb]
      · by_cases hw2 : w = nI (1 + i)
        · rw [if_pos hw, if_neg (fun z => z hw2), if_neg hw, if_pos hw2]
        · rw [if_pos hw, if_pos hw2, if_neg hw, if_neg hw2]
    have step : ∀ H : AH, H 39 = h 39 → H 40 = h 40 → H 41 = h 41 → H 44 = h 44 → H 48 = aJ 64 (mfO rw su ki as sh b r pr w m (i + 1)).1 → H 49 = aJ 8 (mfO rw su ki as sh b r pr w m (i + 1)).2 → (∀ c d, uH (uH H 48 c) 49 d = uH (uH h 48 c) 49 d) → Wp none 111 qM_solves_101 [some (.ref 39), some (.int w), some (.int (nI i)), some (.int (nI m)), x4, x5, x6] [.long (mfv as b pr w i)] h' Q = Wp none 111 qM_solves_10 [some (.ref 39), some (.int w), some (.int (nI (i + 1))), y3, y4, y5, y6] [] H Q → ∃ y3 y4 y5 y6 : Option Value, Wp none 111 qM_solves_10 [some (.ref 39), some (.int w), some (.int (nI i)), x3, x4, x5, x6] [] h Q = Wp none 111 qM_solves_238 [some (.ref 39), some (.int w), some (.int (nI m)), y3, y4, y5, y6] [] (uH (uH h 48 (aJ 64 (mfO rw su ki as sh b r pr w m m).1)) 49 (aJ 8 (mfO rw su ki as sh b r pr w m m).2)) Q := by
      intro H k39 k40 k41 k44 k48 k49 kc e4
      obtain ⟨z3, z4, z5, z6, e5⟩ := ih (i + 1) H y3 y4 y5 y6 (by omega) (k39.trans h39) (k40.trans h40) (k41.trans h41) (k44.trans h44) k48 k49
      refine ⟨z3, z4, z5, z6, ?_⟩
      rw [kc] at e5
      rw [← e5, ← e4, ← e3, ← e1]
      rw [qM_solves_10]
      simp only [w0, w1, w2i, w2r, w3, w4, w5_0, w5_1, w5_2, w5_3, w5_4, w5_5, w5_6, w5_7, w5_8, w6_0, w6_1, w7_0, w7_1, w7_2, w7_3, w7_4, w7_5, w8_0, w8_1, w9_0, w9_1, w9_2, w10_0, w10_1, w10_2, w10_3, w10_4, w10_5, w11, w12_0, w12_1, w12_2, w12_3, w12_4, w12_5, w13_0, w13_1, w13_2, w13_3, w13_4, w13_5, w14, w15i, w15r, w16, w17, w18, w19i, w19z, w19l, w20, w21, w22, w23, w24, w25, w26, w27, w28_1, w28_2, w28_3, w28_4, w28_5, w28_6, w29, w30i, w30z, w31, w32, w33, w34, w35, w36, w37_1, w37_2, w37_3, w37_4, w37_5, w37_6, isO_O, set1_0, set1_1i, set1_1r, set1_1n, set1_1l, set1_s, set2_0, set2_1i, set2_1r, set2_1n, set2_1l, set2_s, ldv_i, ldv_l, ldv_r, ldv_s, ldi_i, ldi_s, fK_0, fK_s, gfc_O, fS_0, fS_s, uH_s, uH_n, uH_u, tl_s, tl_n, b1_0, b1_1, ite_true, ite_false, if_true, if_false, List.length_nil, List.length_cons, Nat.zero_le, Nat.zero_add, Nat.reduceAdd, Nat.reduceLeDiff, Nat.reduceLT, Nat.reduceEqDiff, Nat.reduceMul, Nat.add_left_cancel_iff, not_false_eq_true, h39, hc]
    by_cases hq : r.testBit i = true ∧ ¬ (ki i = 1 ∨ ki i = 3 ∨ b.testBit i = true)
    · rw [if_pos hq] at e2
      have ef : mfO rw su ki as sh b r pr w m (i + 1) = (mwI (miI (mfO rw su ki as sh b r pr w m i).1 i m) sh i m m, vp_updL (mfO rw su ki as sh b r pr w m i).2 i (if w < 0 then (wt sh i m).toInt64 else 0)) := by rw [mfO, if_pos hq]
      refine step _ ?_ ?_ ?_ ?_ ?_ ?_ ?_ e2
      · rw [uH_n _ _ (by decide), uH_n _ _ (by decide), g39, h39]
      · rw [uH_n _ _ (by decide), uH_n _ _ (by decide), g40, h40]
      · rw [uH_n _ _ (by decide), uH_n _ _ (by decide), g41, h41]
      · rw [uH_n _ _ (by decide), uH_n _ _ (by decide), g44, h44]
      · rw [uH_n _ _ (by decide), uH_s, ef]
      · rw [uH_s, ef]
      · intro c d
        rw [← hH, uH_u, uH_c (uH h 48 _) _ _ (show (49 : Nat) ≠ 48 by decide), uH_u, uH_u]
    · rw [if_neg hq] at e2
      have ef : mfO rw su ki as sh b r pr w m (i + 1) = (miI (mfO rw su ki as sh b r pr w m i).1 i m, vp_updL (mfO rw su ki as sh b r pr w m i).2 i (if ki i = 1 ∨ ki i = 3 ∨ b.testBit i = true then mfv as b pr w i else 0)) := by rw [mfO, if_neg hq]
      refine step _ ?_ ?_ ?_ ?_ ?_ ?_ ?_ e2
      · rw [uH_n _ _ (by decide), g39, h39]
      · rw [uH_n _ _ (by decide), g40, h40]
      · rw [uH_n _ _ (by decide), g41, h41]
      · rw [uH_n _ _ (by decide), g44, h44]
      · rw [uH_n _ _ (by decide), g48, ef]
      · rw [uH_s, ef]
      · intro c d
        rw [← hH, uH_c (uH h 48 _) _ _ (show (49 : Nat) ≠ 48 by decide), uH_u, uH_u]
theorem M_solves_el {x5 x6 : Option Value} (hm : m ≤ 8) (hd : ∀ k, k < m → ¬ (meO rw su m k).2 = 0) : ∀ (e k : Nat) (h : AH), k + e = m → h 39 = mO (nI m) pu ye bo ta ax wr be kn pr im → h 48 = aJ 64 (meO rw su m k).1.1 → h 49 = aJ 8 (meO rw su m k).1.2 → Wp none 111 qM_solves_243 [some (.ref 39), some (.int w), some (.long (meO rw su m k).2), none, some (.int (nI k)), x5, x6] [] h Q = Wp none 111 qM_solves_276 [some (.ref 39), some (.int w), some (.long (meO rw su m m).2), none, some (.int (nI m)), x5, x6] [] (uH (uH h 48 (aJ 64 (meO rw su m m).1.1)) 49 (aJ 8 (meO rw su m m).1.2)) Q := by
  intro e
  induction e with
  | zero =>
    intro k h hk h39 h48 h49
    have e : k = m := by omega
    subst e
    have hc : nI k ≤ nI k := nI_le (Nat.le_refl k) (by omega)
    rw [qM_solves_243]
    simp only [jM_solves_276, w0, w1, w2i, w2r, w3, w4, w5_0, w5_1, w5_2, w5_3, w5_4, w5_5, w5_6, w5_7, w5_8, w6_0, w6_1, w7_0, w7_1, w7_2, w7_3, w7_4, w7_5, w8_0, w8_1, w9_0, w9_1, w9_2, w10_0, w10_1, w10_2, w10_3, w10_4, w10_5, w11, w12_0, w12_1, w12_2, w12_3, w12_4, w12_5, w13_0, w13_1, w13_2, w13_3, w13_4, w13_5, w14, w15i, w15r, w16, w17, w18, w19i, w19z, w19l, w20, w21, w22, w23, w24, w25, w26, w27, w28_1, w28_2, w28_3, w28_4, w28_5, w28_6, w29, w30i, w30z, w31, w32, w33, w34, w35, w36, w37_1, w37_2, w37_3, w37_4, w37_5, w37_6, isO_O, set1_0, set1_1i, set1_1r, set1_1n, set1_1l, set1_s, set2_0, set2_1i, set2_1r, set2_1n, set2_1l, set2_s, ldv_i, ldv_l, ldv_r, ldv_s, ldi_i, ldi_s, fK_0, fK_s, gfc_O, fS_0, fS_s, uH_s, uH_n, uH_u, tl_s, tl_n, b1_0, b1_1, ite_true, ite_false, if_true, if_false, List.length_nil, List.length_cons, Nat.zero_le, Nat.zero_add, Nat.reduceAdd, Nat.reduceLeDiff, Nat.reduceLT, Nat.reduceEqDiff, Nat.reduceMul, Nat.add_left_cancel_iff, not_false_eq_true, h39, hc]
    rw [uH_id h h48, uH_id h h49]
  | succ e ih =>
    intro k h hk h39 h48 h49
    have hc : ¬ nI m ≤ nI k := nI_ge (by omega) (by omega)
    have k8 : k < 8 := by omega
    rw [qM_solves_243]
    simp only [jM_solves_243, w0, w1, w2i, w2r, w3, w4, w5_0, w5_1, w5_2, w5_3, w5_4, w5_5, w5_6, w5_7, w5_8, w6_0, w6_1, w7_0, w7_1, w7_2, w7_3, w7_4, w7_5, w8_0, w8_1, w9_0, w9_1, w9_2, w10_0, w10_1, w10_2, w10_3, w10_4, w10_5, w11, w12_0, w12_1, w12_2, w12_3, w12_4, w12_5, w13_0, w13_1, w13_2, w13_3, w13_4, w13_5, w14, w15i, w15r, w16, w17, w18, w19i, w19z, w19l, w20, w21, w22, w23, w24, w25, w26, w27, w28_1, w28_2, w28_3, w28_4, w28_5, w28_6, w29, w30i, w30z, w31, w32, w33, w34, w35, w36, w37_1, w37_2, w37_3, w37_4, w37_5, w37_6, isO_O, set1_0, set1_1i, set1_1r, set1_1n, set1_1l, set1_s, set2_0, set2_1i, set2_1r, set2_1n, set2_1l, set2_s, ldv_i, ldv_l, ldv_r, ldv_s, ldi_i, ldi_s, fK_0, fK_s, gfc_O, fS_0, fS_s, uH_s, uH_n, uH_u, tl_s, tl_n, b1_0, b1_1, ite_true, ite_false, if_true, if_false, List.length_nil, List.length_cons, Nat.zero_le, Nat.zero_add, Nat.reduceAdd, Nat.reduceLeDiff, Nat.reduceLT, Nat.reduceEqDiff, Nat.reduceMul, Nat.add_left_cancel_iff, not_false_eq_true, h39, hc, M_clears h39 h48 h49 (hd k (by omega)) hm (show k < m by omega), n9, rJc_n (show 9 * k < 64 by omega) (show 64 < 2 ^ 31 by decide), nI_1]
    have ef : meO rw su m (k + 1) = (mcO (meO rw su m k).1.1 (meO rw su m k).1.2 k ((meO rw su m k).1.1 (9 * k)) (meO rw su m k).2 m m, (mcO (meO rw su m k).1.1 (meO rw su m k).1.2 k ((meO rw su m k).1.1 (9 * k)) (meO rw su m k).2 m m).1 (9 * k)) := by rw [meO]
    have ih := ih (k + 1) (uH (uH h 48 (aJ 64 (mcO (meO rw su m k).1.1 (meO rw su m k).1.2 k ((meO rw su m k).1.1 (9 * k)) (meO rw su m k).2 m m).1)) 49 (aJ 8 (mcO (meO rw su m k).1.1 (meO rw su m k).1.2 k ((meO rw su m k).1.1 (9 * k)) (meO rw su m k).2 m m).2)) (by omega) (by rw [uH_n _ _ (by decide), uH_n _ _ (by decide)]; exact h39) (by rw [uH_n _ _ (by decide), uH_s, ef]) (by rw [uH_s, ef])
    rw [uH_c (uH h 48 _) _ _ (show (49 : Nat) ≠ 48 by decide), uH_u, uH_u] at ih
    rw [ef] at ih
    exact ih
theorem M_solves_ab {d : Int64} {x3 x5 x6 : Option Value} (hm : m ≤ 8) : ∀ (e i : Nat) (h : AH), i + e = m → h 39 = mO (nI m) pu ye bo ta ax wr be kn pr im → h 49 = aJ 8 su → h 50 = aJ 8 (maF ab su i) → Wp none 111 qM_solves_284 [some (.ref 39), some (.int w), some (.long d), none, some (.int (nI i)), x5, x6] [] h Q = Q none (uH h 50 (aJ 8 (maF ab su m))) := by
  intro e
  induction e with
  | zero =>
    intro i h hi h39 h49 h50
    have e : i = m := by omega
    subst e
    have hc : nI i ≤ nI i := nI_le (Nat.le_refl i) (by omega)
    simp only [qM_solves_284, qM_solves_313, jM_solves_313, w0, w1, w2i, w2r, w3, w4, w5_0, w5_1, w5_2, w5_3, w5_4, w5_5, w5_6, w5_7, w5_8, w6_0, w6_1, w7_0, w7_1, w7_2, w7_3, w7_4, w7_5, w8_0, w8_1, w9_0, w9_1, w9_2, w10_0, w10_1, w10_2, w10_3, w10_4, w10_5, w11, w12_0, w12_1, w12_2, w12_3, w12_4, w12_5, w13_0, w13_1, w13_2, w13_3, w13_4, w13_5, w14, w15i, w15r, w16, w17, w18, w19i, w19z, w19l, w20, w21, w22, w23, w24, w25, w26, w27, w28_1, w28_2, w28_3, w28_4, w28_5, w28_6, w29, w30i, w30z, w31, w32, w33, w34, w35, w36, w37_1, w37_2, w37_3, w37_4, w37_5, w37_6, isO_O, set1_0, set1_1i, set1_1r, set1_1n, set1_1l, set1_s, set2_0, set2_1i, set2_1r, set2_1n, set2_1l, set2_s, ldv_i, ldv_l, ldv_r, ldv_s, ldi_i, ldi_s, fK_0, fK_s, gfc_O, fS_0, fS_s, uH_s, uH_n, uH_u, tl_s, tl_n, b1_0, b1_1, ite_true, ite_false, if_true, if_false, List.length_nil, List.length_cons, Nat.zero_le, Nat.zero_add, Nat.reduceAdd, Nat.reduceLeDiff, Nat.reduceLT, Nat.reduceEqDiff, Nat.reduceMul, Nat.add_left_cancel_iff, not_false_eq_true, h39, hc]
    rw [uH_id h h50]
  | succ e ih =>
    intro i h hi h39 h49 h50
    have hc : ¬ nI m ≤ nI i := nI_ge (by omega) (by omega)
    have i8 : i < 8 := by omega
    rw [qM_solves_284]
    simp only [jM_solves_284, w0, w1, w2i, w2r, w3, w4, w5_0, w5_1, w5_2, w5_3, w5_4, w5_5, w5_6, w5_7, w5_8, w6_0, w6_1, w7_0, w7_1, w7_2, w7_3, w7_4, w7_5, w8_0, w8_1, w9_0, w9_1, w9_2, w10_0, w10_1, w10_2, w10_3, w10_4, w10_5, w11, w12_0, w12_1, w12_2, w12_3, w12_4, w12_5, w13_0, w13_1, w13_2, w13_3, w13_4, w13_5, w14, w15i, w15r, w16, w17, w18, w19i, w19z, w19l, w20, w21, w22, w23, w24, w25, w26, w27, w28_1, w28_2, w28_3, w28_4, w28_5, w28_6, w29, w30i, w30z, w31, w32, w33, w34, w35, w36, w37_1, w37_2, w37_3, w37_4, w37_5, w37_6, isO_O, set1_0, set1_1i, set1_1r, set1_1n, set1_1l, set1_s, set2_0, set2_1i, set2_1r, set2_1n, set2_1l, set2_s, ldv_i, ldv_l, ldv_r, ldv_s, ldi_i, ldi_s, fK_0, fK_s, gfc_O, fS_0, fS_s, uH_s, uH_n, uH_u, tl_s, tl_n, b1_0, b1_1, ite_true, ite_false, if_true, if_false, List.length_nil, List.length_cons, Nat.zero_le, Nat.zero_add, Nat.reduceAdd, Nat.reduceLeDiff, Nat.reduceLT, Nat.reduceEqDiff, Nat.reduceMul, Nat.add_left_cancel_iff, not_false_eq_true, h39, h49, h50, hc, rJc_n i8 (show 8 < 2 ^ 31 by decide), wJc_n i8 (show 8 < 2 ^ 31 by decide), nI_1]
    rw [ih (i + 1) _ (by omega) (by rw [uH_n _ _ (by decide)]; exact h39) (by rw [uH_n _ _ (by decide)]; exact h49) (by rw [uH_s, maF]), uH_u]
/-- the reference's rows and sums when filled -/
def msF (rw su : Nat → Int64) (ki as sh : Nat → Int32) (b : Nat) (pr w : Int32) (m : Nat) : (Nat → Int64) × (Nat → Int64) := mfO rw su ki as sh b (rcM ki sh b m) pr w m m
/-- the reference's rows, sums, and what is below, when solved -/
def msE (rw su : Nat → Int64) (ki as sh : Nat → Int32) (b : Nat) (pr w : Int32) (m : Nat) (k : Nat) : ((Nat → Int64) × (Nat → Int64)) × Int64 := meO (msF rw su ki as sh b pr w m).1 (msF rw su ki as sh b pr w m).2 m k
theorem M_solves (h39 : h 39 = mO (nI m) pu ye (nI b) ta ax wr be kn pr im) (h40 : h 40 = aI 8 ki) (h41 : h 41 = aI 8 as) (h44 : h 44 = aI 64 sh) (h48 : h 48 = aJ 64 rw) (h49 : h 49 = aJ 8 su) (h50 : h 50 = aJ 8 ab) (hm : m ≤ 8) (hb : b < 256) (hd : ∀ k, k < m → ¬ (msE rw su ki as sh b pr w m k).2 = 0) : WpM 111 [.ref 39, .int w] h Q = Q none (uH (uH (uH (uH h 39 (mO (nI m) pu ye (nI b) ta ax wr (msE rw su ki as sh b pr w m m).2 (nI (rcM ki sh b m)) pr im)) 48 (aJ 64 (msE rw su ki as sh b pr w m m).1.1)) 49 (aJ 8 (msE rw su ki as sh b pr w m m).1.2)) 50 (aJ 8 (maF ab (msE rw su ki as sh b pr w m m).1.2 m))) := by
  have hr : rcM ki sh b m < 256 := rcM_lt ki sh b hm
  rw [eM_solves]
  simp only [qM_solves_0, w0, w1, w2i, w2r, w3, w4, w5_0, w5_1, w5_2, w5_3, w5_4, w5_5, w5_6, w5_7, w5_8, w6_0, w6_1, w7_0, w7_1, w7_2, w7_3, w7_4, w7_5, w8_0, w8_1, w9_0, w9_1, w9_2, w10_0, w10_1, w10_2, w10_3, w10_4, w10_5, w11, w12_0, w12_1, w12_2, w12_3, w12_4, w12_5, w13_0, w13_1, w13_2, w13_3, w13_4, w13_5, w14, w15i, w15r, w16, w17, w18, w19i, w19z, w19l, w20, w21, w22, w23, w24, w25, w26, w27, w28_1, w28_2, w28_3, w28_4, w28_5, w28_6, w29, w30i, w30z, w31, w32, w33, w34, w35, w36, w37_1, w37_2, w37_3, w37_4, w37_5, w37_6, isO_O, set1_0, set1_1i, set1_1r, set1_1n, set1_1l, set1_s, set2_0, set2_1i, set2_1r, set2_1n, set2_1l, set2_s, ldv_i, ldv_l, ldv_r, ldv_s, ldi_i, ldi_s, fK_0, fK_s, gfc_O, fS_0, fS_s, uH_s, uH_n, uH_u, tl_s, tl_n, b1_0, b1_1, ite_true, ite_false, if_true, if_false, List.length_nil, List.length_cons, Nat.zero_le, Nat.zero_add, Nat.reduceAdd, Nat.reduceLeDiff, Nat.reduceLT, Nat.reduceEqDiff, Nat.reduceMul, Nat.add_left_cancel_iff, not_false_eq_true, h39, M_reached h39 h40 h44 hb hm, pfc_O]
  obtain ⟨y3, y4, y5, y6, e1⟩ := M_solves_fill (Q := Q) (w := w) (rw := rw) (su := su) (ki := ki) (as := as) (sh := sh) hm hb hr m 0 (uH h 39 (mO (nI m) pu ye (nI b) ta ax wr be (nI (rcM ki sh b m)) pr im)) none none none none (by omega) (by rw [uH_s]) (by rw [uH_n _ _ (by decide)]; exact h40) (by rw [uH_n _ _ (by decide)]; exact h41) (by rw [uH_n _ _ (by decide)]; exact h44) (by rw [uH_n _ _ (by decide)]; exact h48) (by rw [uH_n _ _ (by decide)]; exact h49)
  rw [show nI 0 = 0 from rfl] at e1
  rw [e1, qM_solves_238]
  simp only [w0, w1, w2i, w2r, w3, w4, w5_0, w5_1, w5_2, w5_3, w5_4, w5_5, w5_6, w5_7, w5_8, w6_0, w6_1, w7_0, w7_1, w7_2, w7_3, w7_4, w7_5, w8_0, w8_1, w9_0, w9_1, w9_2, w10_0, w10_1, w10_2, w10_3, w10_4, w10_5, w11, w12_0, w12_1, w12_2, w12_3, w12_4, w12_5, w13_0, w13_1, w13_2, w13_3, w13_4, w13_5, w14, w15i, w15r, w16, w17, w18, w19i, w19z, w19l, w20, w21, w22, w23, w24, w25, w26, w27, w28_1, w28_2, w28_3, w28_4, w28_5, w28_6, w29, w30i, w30z, w31, w32, w33, w34, w35, w36, w37_1, w37_2, w37_3, w37_4, w37_5, w37_6, isO_O, set1_0, set1_1i, set1_1r, set1_1n, set1_1l, set1_s, set2_0, set2_1i, set2_1r, set2_1n, set2_1l, set2_s, ldv_i, ldv_l, ldv_r, ldv_s, ldi_i, ldi_s, fK_0, fK_s, gfc_O, fS_0, fS_s, uH_s, uH_n, uH_u, tl_s, tl_n, b1_0, b1_1, ite_true, ite_false, if_true, if_false, List.length_nil, List.length_cons, Nat.zero_le, Nat.zero_add, Nat.reduceAdd, Nat.reduceLeDiff, Nat.reduceLT, Nat.reduceEqDiff, Nat.reduceMul, Nat.add_left_cancel_iff, not_false_eq_true]
  have e2 := M_solves_el (Q := Q) (w := w) (x5 := y5) (x6 := y6) hm hd m 0 (uH (uH (uH h 39 (mO (nI m) pu ye (nI b) ta ax wr be (nI (rcM ki sh b m)) pr im)) 48 (aJ 64 (mfO rw su ki as sh b (rcM ki sh b m) pr w m m).1)) 49 (aJ 8 (mfO rw su ki as sh b (rcM ki sh b m) pr w m m).2)) (by omega) (by rw [uH_n _ _ (by decide), uH_n _ _ (by decide), uH_s]) (by rw [uH_n _ _ (by decide), uH_s]; rfl) (by rw [uH_s]; rfl)
  rw [show nI 0 = 0 from rfl, show (meO (msF rw su ki as sh b pr w m).1 (msF rw su ki as sh b pr w m).2 m 0).2 = 1 from rfl] at e2
  rw [e2, qM_solves_276]
  simp only [w0, w1, w2i, w2r, w3, w4, w5_0, w5_1, w5_2, w5_3, w5_4, w5_5, w5_6, w5_7, w5_8, w6_0, w6_1, w7_0, w7_1, w7_2, w7_3, w7_4, w7_5, w8_0, w8_1, w9_0, w9_1, w9_2, w10_0, w10_1, w10_2, w10_3, w10_4, w10_5, w11, w12_0, w12_1, w12_2, w12_3, w12_4, w12_5, w13_0, w13_1, w13_2, w13_3, w13_4, w13_5, w14, w15i, w15r, w16, w17, w18, w19i, w19z, w19l, w20, w21, w22, w23, w24, w25, w26, w27, w28_1, w28_2, w28_3, w28_4, w28_5, w28_6, w29, w30i, w30z, w31, w32, w33, w34, w35, w36, w37_1, w37_2, w37_3, w37_4, w37_5, w37_6, isO_O, set1_0, set1_1i, set1_1r, set1_1n, set1_1l, set1_s, set2_0, set2_1i, set2_1r, set2_1n, set2_1l, set2_s, ldv_i, ldv_l, ldv_r, ldv_s, ldi_i, ldi_s, fK_0, fK_s, gfc_O, fS_0, fS_s, uH_s, uH_n, uH_u, tl_s, tl_n, b1_0, b1_1, ite_true, ite_false, if_true, if_false, List.length_nil, List.length_cons, Nat.zero_le, Nat.zero_add, Nat.reduceAdd, Nat.reduceLeDiff, Nat.reduceLT, Nat.reduceEqDiff, Nat.reduceMul, Nat.add_left_cancel_iff, not_false_eq_true, pfc_O]
  have e3 := M_solves_ab (Q := Q) (w := w) (ab := ab) (su := (msE rw su ki as sh b pr w m m).1.2) (d := (msE rw su ki as sh b pr w m m).2) (x3 := none) (x5 := y5) (x6 := y6) (pu := pu) (ye := ye) (bo := nI b) (ta := ta) (ax := ax) (wr := wr) (be := (msE rw su ki as sh b pr w m m).2) (kn := nI (rcM ki sh b m)) (pr := pr) (im := im) hm m 0
  rw [show nI 0 = 0 from rfl] at e3
  rw [show meO (msF rw su ki as sh b pr w m).1 (msF rw su ki as sh b pr w m).2 m m = msE rw su ki as sh b pr w m m from rfl]
  rw [e3 _ (by omega) (by rw [uH_s]) (by rw [uH_n _ _ (by decide), uH_s]) (by rw [uH_n _ _ (by decide), uH_n _ _ (by decide), uH_n _ _ (by decide), uH_n _ _ (by decide), uH_n _ _ (by decide), uH_n _ _ (by decide)]; exact h50)]
  refine congrArg (Q none) ?_
  funext q
  simp only [uH]
  by_cases q50 : q = 50
  · simp [q50]
  · by_cases q39 : q = 39
    · simp [q39]
    · by_cases q48 : q = 48
      · simp [q48]
      · by_cases q49 : q = 49
        · simp [q49]
        · simp [q39, q48, q49, q50]
end MS2

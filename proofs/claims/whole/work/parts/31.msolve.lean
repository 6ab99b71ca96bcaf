/-! the reference: rents -/
def mcI (rw : Nat → Int64) (i k : Nat) (piv by' d : Int64) : Nat → Nat → Int64
  | 0 => rw
  | j + 1 => vp_updL (mcI rw i k piv by' d j) (8 * i + j) ((piv * mcI rw i k piv by' d j (8 * i + j) - by' * mcI rw i k piv by' d j (8 * k + j)) / d)
def mcO (rw su : Nat → Int64) (k : Nat) (piv d : Int64) (m : Nat) : Nat → (Nat → Int64) × (Nat → Int64)
  | 0 => (rw, su)
  | i + 1 => if i = k then mcO rw su k piv d m i else (mcI (mcO rw su k piv d m i).1 i k piv ((mcO rw su k piv d m i).1 (8 * i + k)) d m, vp_updL (mcO rw su k piv d m i).2 i ((piv * (mcO rw su k piv d m i).2 i - (mcO rw su k piv d m i).1 (8 * i + k) * (mcO rw su k piv d m i).2 k) / d))
def miI (rw : Nat → Int64) (i : Nat) : Nat → Nat → Int64
  | 0 => rw
  | j + 1 => vp_updL (miI rw i j) (8 * i + j) (if i = j then 1 else 0)
def mwI (rw : Nat → Int64) (sh : Nat → Int32) (i m : Nat) : Nat → Nat → Int64
  | 0 => rw
  | j + 1 => vp_updL (mwI rw sh i m j) (8 * i + j) (if i = j then (wt sh i m).toInt64 else (-(sh (8 * i + j))).toInt64)
def mfv (as : Nat → Int32) (b : Nat) (pr w : Int32) (i : Nat) : Int64 := if w = 0 then (if b.testBit i = true then pr.toInt64 else (as i).toInt64) else if w = nI (1 + i) then 1 else 0
def mfx (ki : Nat → Int32) (b i : Nat) : Prop := ki i = 1 ∨ ki i = 3 ∨ b.testBit i = true
def mfO (rw su : Nat → Int64) (ki as sh : Nat → Int32) (b r : Nat) (pr w : Int32) (m : Nat) : Nat → (Nat → Int64) × (Nat → Int64)
  | 0 => (rw, su)
  | i + 1 => if r.testBit i = true ∧ ¬ (ki i = 1 ∨ ki i = 3 ∨ b.testBit i = true) then (mwI (miI (mfO rw su ki as sh b r pr w m i).1 i m) sh i m m, vp_updL (mfO rw su ki as sh b r pr w m i).2 i (if w < 0 then (wt sh i m).toInt64 else 0)) else (miI (mfO rw su ki as sh b r pr w m i).1 i m, vp_updL (mfO rw su ki as sh b r pr w m i).2 i (if ki i = 1 ∨ ki i = 3 ∨ b.testBit i = true then mfv as b pr w i else 0))
def meO (rw su : Nat → Int64) (m : Nat) : Nat → ((Nat → Int64) × (Nat → Int64)) × Int64
  | 0 => ((rw, su), 1)
  | k + 1 => (mcO (meO rw su m k).1.1 (meO rw su m k).1.2 k ((meO rw su m k).1.1 (9 * k)) (meO rw su m k).2 m m, (mcO (meO rw su m k).1.1 (meO rw su m k).1.2 k ((meO rw su m k).1.1 (9 * k)) (meO rw su m k).2 m m).1 (9 * k))
def maF (ab su : Nat → Int64) : Nat → Nat → Int64
  | 0 => ab
  | i + 1 => vp_updL (maF ab su i) i (su i)
theorem updL_same {f : Nat → Int64} {i : Nat} : vp_updL f i (f i) = f := by
  funext j; unfold vp_updL; by_cases h : j = i
  · simp [h]
  · simp [h]
theorem updL_uu {f : Nat → Int64} {i : Nat} {x y : Int64} : vp_updL (vp_updL f i x) i y = vp_updL f i y := by
  funext j; unfold vp_updL; by_cases h : j = i <;> simp [h]
section MS
variable {h : AH} {Q : Option Value → AH → Prop} {ho pu ye bo ta ax wr : Int32} {be : Int64} {kn pr im : Int32} {ki as ow ca sh th f : Nat → Int32} {rw su ab : Nat → Int64} {m b r : Nat}
theorem M_clears_in {i k : Nat} {piv d by' : Int64} (hd : ¬ d = 0) (hm : m ≤ 8) (hi : i < 8) (hk : k < 8) (hik : ¬ i = k) : ∀ (e j : Nat) (h : AH), j + e = m → h 39 = mO (nI m) pu ye bo ta ax wr be kn pr im → h 48 = aJ 64 (mcI rw i k piv by' d j) → Wp none 112 qM_clears_40 [some (.ref 39), some (.int (nI k)), some (.long d), none, some (.long piv), none, some (.int (nI i)), some (.long by'), none, some (.int (nI j))] [] h Q = Wp none 112 qM_clears_108 [some (.ref 39), some (.int (nI k)), some (.long d), none, some (.long piv), none, some (.int (nI i)), some (.long by'), none, some (.int (nI m))] [] (uH h 48 (aJ 64 (mcI rw i k piv by' d m))) Q := by
  intro e
  induction e with
  | zero =>
    intro j h hj h39 h48
    have e : j = m := by omega
    subst e
    have hc : nI j ≤ nI j := nI_le (Nat.le_refl j) (by omega)
    rw [qM_clears_40]
    simp only [jM_clears_108, w0, w1, w2i, w2r, w3, w4, w5_0, w5_1, w5_2, w5_3, w5_4, w5_5, w5_6, w5_7, w5_8, w6_0, w6_1, w7_0, w7_1, w7_2, w7_3, w7_4, w7_5, w8_0, w8_1, w9_0, w9_1, w9_2, w10_0, w10_1, w10_2, w10_3, w10_4, w10_5, w11, w12_0, w12_1, w12_2, w12_3, w12_4, w12_5, w13_0, w13_1, w13_2, w13_3, w13_4, w13_5, w14, w15i, w15r, w16, w17, w18, w19i, w19z, w19l, w20, w21, w22, w23, w24, w25, w26, w27, w28_1, w28_2, w28_3, w28_4, w28_5, w28_6, w29, w30i, w30z, w31, w32, w33, w34, w35, w36, w37_1, w37_2, w37_3, w37_4, w37_5, w37_6, isO_O, set1_0, set1_1i, set1_1r, set1_1n, set1_1l, set1_s, set2_0, set2_1i, set2_1r, set2_1n, set2_1l, set2_s, ldv_i, ldv_l, ldv_r, ldv_s, ldi_i, ldi_s, fK_0, fK_s, gfc_O, fS_0, fS_s, uH_s, uH_n, uH_u, tl_s, tl_n, b1_0, b1_1, ite_true, ite_false, if_true, if_false, List.length_nil, List.length_cons, Nat.zero_le, Nat.zero_add, Nat.reduceAdd, Nat.reduceLeDiff, Nat.reduceLT, Nat.reduceEqDiff, Nat.reduceMul, Nat.add_left_cancel_iff, not_false_eq_true, h39, hc]
    rw [uH_id h h48]
  | succ e ih =>
    intro j h hj h39 h48
    have hc : ¬ nI m ≤ nI j := nI_ge (by omega) (by omega)
    rw [qM_clears_40]
    simp only [jM_clears_40, w0, w1, w2i, w2r, w3, w4, w5_0, w5_1, w5_2, w5_3, w5_4, w5_5, w5_6, w5_7, w5_8, w6_0, w6_1, w7_0, w7_1, w7_2, w7_3, w7_4, w7_5, w8_0, w8_1, w9_0, w9_1, w9_2, w10_0, w10_1, w10_2, w10_3, w10_4, w10_5, w11, w12_0, w12_1, w12_2, w12_3, w12_4, w12_5, w13_0, w13_1, w13_2, w13_3, w13_4, w13_5, w14, w15i, w15r, w16, w17, w18, w19i, w19z, w19l, w20, w21, w22, w23, w24, w25, w26, w27, w28_1, w28_2, w28_3, w28_4, w28_5, w28_6, w29, w30i, w30z, w31, w32, w33, w34, w35, w36, w37_1, w37_2, w37_3, w37_4, w37_5, w37_6, isO_O, set1_0, set1_1i, set1_1r, set1_1n, set1_1l, set1_s, set2_0, set2_1i, set2_1r, set2_1n, set2_1l, set2_s, ldv_i, ldv_l, ldv_r, ldv_s, ldi_i, ldi_s, fK_0, fK_s, gfc_O, fS_0, fS_s, uH_s, uH_n, uH_u, tl_s, tl_n, b1_0, b1_1, ite_true, ite_false, if_true, if_false, List.length_nil, List.length_cons, Nat.zero_le, Nat.zero_add, Nat.reduceAdd, Nat.reduceLeDiff, Nat.reduceLT, Nat.reduceEqDiff, Nat.reduceMul, Nat.add_left_cancel_iff, not_false_eq_true, h39, h48, hc, nI_eq (show i < 2 ^ 31 by omega) (show k < 2 ^ 31 by omega), hik, hd, n8a, nI_1, rJc_n (show 8 * i + j < 64 by omega) (show 64 < 2 ^ 31 by decide), rJc_n (show 8 * k + j < 64 by omega) (show 64 < 2 ^ 31 by decide), wJc_n (show 8 * i + j < 64 by omega) (show 64 < 2 ^ 31 by decide)]
    rw [ih (j + 1) _ (by omega) (by rw [uH_n _ _ (by decide)]; exact h39) (by rw [uH_s, mcI]), uH_u]
theorem M_clears_out {k : Nat} {piv d : Int64} (hd : ¬ d = 0) (hm : m ≤ 8) (hk : k < m) : ∀ (e i : Nat) (h : AH) (x1 x2 x3 : Option Value), i + e = m → h 39 = mO (nI m) pu ye bo ta ax wr be kn pr im → h 48 = aJ 64 (mcO rw su k piv d m i).1 → h 49 = aJ 8 (mcO rw su k piv d m i).2 → Wp none 112 qM_clears_14 [some (.ref 39), some (.int (nI k)), some (.long d), none, some (.long piv), none, some (.int (nI i)), x1, x2, x3] [] h Q = Q none (uH (uH h 48 (aJ 64 (mcO rw su k piv d m m).1)) 49 (aJ 8 (mcO rw su k piv d m m).2)) := by
  intro e
  induction e with
  | zero =>
    intro i h x1 x2 x3 hi h39 h48 h49
    have e : i = m := by omega
    subst e
    have hc : nI i ≤ nI i := nI_le (Nat.le_refl i) (by omega)
    simp only [qM_clears_14, qM_clears_159, jM_clears_159, w0, w1, w2i, w2r, w3, w4, w5_0, w5_1, w5_2, w5_3, w5_4, w5_5, w5_6, w5_7, w5_8, w6_0, w6_1, w7_0, w7_1, w7_2, w7_3, w7_4, w7_5, w8_0, w8_1, w9_0, w9_1, w9_2, w10_0, w10_1, w10_2, w10_3, w10_4, w10_5, w11, w12_0, w12_1, w12_2, w12_3, w12_4, w12_5, w13_0, w13_1, w13_2, w13_3, w13_4, w13_5, w14, w15i, w15r, w16, w17, w18, w19i, w19z, w19l, w20, w21, w22, w23, w24, w25, w26, w27, w28_1, w28_2, w28_3, w28_4, w28_5, w28_6, w29, w30i, w30z, w31, w32, w33, w34, w35, w36, w37_1, w37_2, w37_3, w37_4, w37_5, w37_6, isO_O, set1_0, set1_1i, set1_1r, set1_1n, set1_1l, set1_s, set2_0, set2_1i, set2_1r, set2_1n, set2_1l, set2_s, ldv_i, ldv_l, ldv_r, ldv_s, ldi_i, ldi_s, fK_0, fK_s, gfc_O, fS_0, fS_s, uH_s, uH_n, uH_u, tl_s, tl_n, b1_0, b1_1, ite_true, ite_false, if_true, if_false, List.length_nil, List.length_cons, Nat.zero_le, Nat.zero_add, Nat.reduceAdd, Nat.reduceLeDiff, Nat.reduceLT, Nat.reduceEqDiff, Nat.reduceMul, Nat.add_left_cancel_iff, not_false_eq_true, h39, hc]
    rw [uH_id h h48, uH_id h h49]
  | succ e ih =>
    intro i h x1 x2 x3 hi h39 h48 h49
    have hc : ¬ nI m ≤ nI i := nI_ge (by omega) (by omega)
    have i8 : i < 8 := by omega
    have k8 : k < 8 := by omega
    rw [qM_clears_14]
    simp only [w0, w1, w2i, w2r, w3, w4, w5_0, w5_1, w5_2, w5_3, w5_4, w5_5, w5_6, w5_7, w5_8, w6_0, w6_1, w7_0, w7_1, w7_2, w7_3, w7_4, w7_5, w8_0, w8_1, w9_0, w9_1, w9_2, w10_0, w10_1, w10_2, w10_3, w10_4, w10_5, w11, w12_0, w12_1, w12_2, w12_3, w12_4, w12_5, w13_0, w13_1, w13_2, w13_3, w13_4, w13_5, w14, w15i, w15r, w16, w17, w18, w19i, w19z, w19l, w20, w21, w22, w23, w24, w25, w26, w27, w28_1, w28_2, w28_3, w28_4, w28_5, w28_6, w29, w30i, w30z, w31, w32, w33, w34, w35, w36, w37_1, w37_2, w37_3, w37_4, w37_5, w37_6, isO_O, set1_0, set1_1i, set1_1r, set1_1n, set1_1l, set1_s, set2_0, set2_1i, set2_1r, set2_1n, set2_1l, set2_s, ldv_i, ldv_l, ldv_r, ldv_s, ldi_i, ldi_s, fK_0, fK_s, gfc_O, fS_0, fS_s, uH_s, uH_n, uH_u, tl_s, tl_n, b1_0, b1_1, ite_true, ite_false, if_true, if_false, List.length_nil, List.length_cons, Nat.zero_le, Nat.zero_add, Nat.reduceAdd, Nat.reduceLeDiff, Nat.reduceLT, Nat.reduceEqDiff, Nat.reduceMul, Nat.add_left_cancel_iff, not_false_eq_true, h39, h48, hc, n8a, rJc_n (show 8 * i + k < 64 by omega) (show 64 < 2 ^ 31 by decide)]
    by_cases hik : i = k
    · subst hik
      have hc0 : ¬ nI m ≤ (0 : Int32) := nI_ge (a := 0) (b := m) (by omega) (by omega)
      rw [qM_clears_40]
      simp only [qM_clears_108, jM_clears_108, qM_clears_130, jM_clears_130, qM_clears_152, jM_clears_152, jM_clears_14, w0, w1, w2i, w2r, w3, w4, w5_0, w5_1, w5_2, w5_3, w5_4, w5_5, w5_6, w5_7, w5_8, w6_0, w6_1, w7_0, w7_1, w7_2, w7_3, w7_4, w7_5, w8_0, w8_1, w9_0, w9_1, w9_2, w10_0, w10_1, w10_2, w10_3, w10_4, w10_5, w11, w12_0, w12_1, w12_2, w12_3, w12_4, w12_5, w13_0, w13_1, w13_2, w13_3, w13_4, w13_5, w14, w15i, w15r, w16, w17, w18, w19i, w19z, w19l, w20, w21, w22, w23, w24, w25, w26, w27, w28_1, w28_2, w28_3, w28_4, w28_5, w28_6, w29, w30i, w30z, w31, w32, w33, w34, w35, w36, w37_1, w37_2, w37_3, w37_4, w37_5, w37_6, isO_O, set1_0, set1_1i, set1_1r, set1_1n, set1_1l, set1_s, set2_0, set2_1i, set2_1r, set2_1n, set2_1l, set2_s, ldv_i, ldv_l, ldv_r, ldv_s, ldi_i, ldi_s, fK_0, fK_s, gfc_O, fS_0, fS_s, uH_s, uH_n, uH_u, tl_s, tl_n, b1_0, b1_1, ite_true, ite_false, if_true, if_false, List.length_nil, List.length_cons, Nat.zero_le, Nat.zero_add, Nat.reduceAdd, Nat.reduceLeDiff, Nat.reduceLT, Nat.reduceEqDiff, Nat.reduceMul, Nat.add_left_cancel_iff, not_false_eq_true, h39, h49, hc0, ne_eq, not_true_eq_false, rJc_n i8 (show 8 < 2 ^ 31 by decide), wJc_n i8 (show 8 < 2 ^ 31 by decide), updL_same, nI_1]
      have e1 : mcO rw su i piv d m (i + 1) = mcO rw su i piv d m i := by rw [mcO, if_pos rfl]
      rw [uH_id h h49]
      exact ih (i + 1) h _ _ _ (by omega) h39 (by rw [e1]; exact h48) (by rw [e1]; exact h49)
    · have e2 := M_clears_in (Q := Q) (rw := (mcO rw su k piv d m i).1) (piv := piv) (by' := (mcO rw su k piv d m i).1 (8 * i + k)) hd hm i8 k8 hik m 0 h (by omega) h39 h48
      rw [show nI 0 = 0 from rfl] at e2
      rw [e2]
      have e1 : mcO rw su k piv d m (i + 1) = (mcI (mcO rw su k piv d m i).1 i k piv ((mcO rw su k piv d m i).1 (8 * i + k)) d m, vp_updL (mcO rw su k piv d m i).2 i ((piv * (mcO rw su k piv d m i).2 i - (mcO rw su k piv d m i).1 (8 * i + k) * (mcO rw su k piv d m i).2 k) / d)) := by rw [mcO, if_neg hik]
      simp only [qM_clears_108, qM_clears_130, jM_clears_130, qM_clears_152, jM_clears_152, jM_clears_14, w0, w1, w2i, w2r, w3, w4, w5_0, w5_1, w5_2, w5_3, w5_4, w5_5, w5_6, w5_7, w5_8, w6_0, w6_1, w7_0, w7_1, w7_2, w7_3, w7_4, w7_5, w8_0, w8_1, w9_0, w9_1, w9_2, w10_0, w10_1, w10_2, w10_3, w10_4, w10_5, w11, w12_0, w12_1, w12_2, w12_3, w12_4, w12_5, w13_0, w13_1, w13_2, w13_3, w13_4, w13_5, w14, w15i, w15r, w16, w17, w18, w19i, w19z, w19l, w20, w21, w22, w23, w24, w25, w26, w27, w28_1, w28_2, w28_3, w28_4, w28_5, w28_6, w29, w30i, w30z, w31, w32, w33, w34, w35, w36, w37_1, w37_2, w37_3, w37_4, w37_5, w37_6, isO_O, set1_0, set1_1i, set1_1r, set1_1n, set1_1l, set1_s, set2_0, set2_1i, set2_1r, set2_1n, set2_1l, set2_s, ldv_i, ldv_l, ldv_r, ldv_s, ldi_i, ldi_s, fK_0, fK_s, gfc_O, fS_0, fS_s, uH_s, uH_n, uH_u, tl_s, tl_n, b1_0, b1_1, ite_true, ite_false, if_true, if_false, List.length_nil, List.length_cons, Nat.zero_le, Nat.zero_add, Nat.reduceAdd, Nat.reduceLeDiff, Nat.reduceLT, Nat.reduceEqDiff, Nat.reduceMul, Nat.add_left_cancel_iff, not_false_eq_true, h39, h49, ne_eq, nI_eq (show i < 2 ^ 31 by omega) (show k < 2 ^ 31 by omega), hik, hd, rJc_n i8 (show 8 < 2 ^ 31 by decide), rJc_n k8 (show 8 < 2 ^ 31 by decide), wJc_n i8 (show 8 < 2 ^ 31 by decide), nI_1]
      rw [ih (i + 1) _ _ _ _ (by omega) (by rw [uH_n _ _ (by decide), uH_n _ _ (by decide)]; exact h39) (by rw [uH_n _ _ (by decide), uH_s, e1]) (by rw [uH_s, e1])]
      rw [uH_c (uH h 48 _) _ _ (show (49 : Nat) ≠ 48 by decide), uH_u, uH_u]
theorem M_clears {k : Nat} {d : Int64} (h39 : h 39 = mO (nI m) pu ye bo ta ax wr be kn pr im) (h48 : h 48 = aJ 64 rw) (h49 : h 49 = aJ 8 su) (hd : ¬ d = 0) (hm : m ≤ 8) (hk : k < m) : WpM 112 [.ref 39, .int (nI k), .long d] h Q = Q none (uH (uH h 48 (aJ 64 (mcO rw su k (rw (9 * k)) d m m).1)) 49 (aJ 8 (mcO rw su k (rw (9 * k)) d m m).2)) := by
  rw [eM_clears]
  simp only [qM_clears_0, w0, w1, w2i, w2r, w3, w4, w5_0, w5_1, w5_2, w5_3, w5_4, w5_5, w5_6, w5_7, w5_8, w6_0, w6_1, w7_0, w7_1, w7_2, w7_3, w7_4, w7_5, w8_0, w8_1, w9_0, w9_1, w9_2, w10_0, w10_1, w10_2, w10_3, w10_4, w10_5, w11, w12_0, w12_1, w12_2, w12_3, w12_4, w12_5, w13_0, w13_1, w13_2, w13_3, w13_4, w13_5, w14, w15i, w15r, w16, w17, w18, w19i, w19z, w19l, w20, w21, w22, w23, w24, w25, w26, w27, w28_1, w28_2, w28_3, w28_4, w28_5, w28_6, w29, w30i, w30z, w31, w32, w33, w34, w35, w36, w37_1, w37_2, w37_3, w37_4, w37_5, w37_6, isO_O, set1_0, set1_1i, set1_1r, set1_1n, set1_1l, set1_s, set2_0, set2_1i, set2_1r, set2_1n, set2_1l, set2_s, ldv_i, ldv_l, ldv_r, ldv_s, ldi_i, ldi_s, fK_0, fK_s, gfc_O, fS_0, fS_s, uH_s, uH_n, uH_u, tl_s, tl_n, b1_0, b1_1, ite_true, ite_false, if_true, if_false, List.length_nil, List.length_cons, Nat.zero_le, Nat.zero_add, Nat.reduceAdd, Nat.reduceLeDiff, Nat.reduceLT, Nat.reduceEqDiff, Nat.reduceMul, Nat.add_left_cancel_iff, not_false_eq_true, h39, h48, n9, rJc_n (show 9 * k < 64 by omega) (show 64 < 2 ^ 31 by decide)]
  exact M_clears_out hd hm hk m 0 h _ _ _ (by omega) h39 h48 h49
end MS

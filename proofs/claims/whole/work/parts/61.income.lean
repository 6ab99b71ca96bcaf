/-! the pairs: income, best -/
/-- what is above, house by house, when fixed ones ask so much -/
def ABk (ro : Nat → Int64) (r o : Nat) (be : Int64) (m : Nat) (ak : Nat → Int32) (x : Nat) : Int64 := if r.testBit x = true then raF ro r o be ak x m else 0
theorem icF_cong {ab ab' : Nat → Int64} {r : Nat} {be : Int64} {ow ow' : Nat → Int32} {pu w : Int32} : ∀ n, (∀ x, x < n → ab x = ab' x ∧ ow x = ow' x) → icF ab r be ow pu w n = icF ab' r be ow' pu w n
  | 0, _ => rfl
  | n + 1, h => by
    rw [icF, icF, (h n (by omega)).1, (h n (by omega)).2, icF_cong n (fun x hx => h x (by omega))]
theorem icF_bd {ab : Nat → Int64} {r D : Nat} {be : Int64} {ow : Nat → Int32} {pu w : Int32} {m : Nat} (hD : D ≤ 105413504) (hm : m ≤ 8) (h : ∀ x, x < m → 0 ≤ (ab x).toInt ∧ (ab x).toInt ≤ 99 * D) : ∀ n, n ≤ m → 0 ≤ (icF ab r be ow pu w n).toInt ∧ (icF ab r be ow pu w n).toInt ≤ 99 * D * n
  | 0, _ => by show (0 : Int) ≤ (0 : Int64).toInt ∧ (0 : Int64).toInt ≤ 99 * D * (0 : Nat); exact ⟨by decide, by show (0 : Int) ≤ _; omega⟩
  | n + 1, hn => by
    have ih := icF_bd (r := r) (be := be) (ow := ow) (pu := pu) (w := w) hD hm h n (by omega)
    have a := h n (by omega)
    have e : (99 * D * ((n + 1 : Nat) : Int) : Int) = 99 * D * n + 99 * D := by rw [Int.natCast_add, Int.mul_add]; simp
    have b : (99 * D * (n : Int) : Int) ≤ 99 * D * 8 := Int.mul_le_mul_of_nonneg_left (by omega) (by omega)
    rw [icF]
    split
    · rw [fb_addL (by omega) (by omega), e]; omega
    · rw [e]; omega
theorem rentAt {m : Nat} {pu ye pr : Int32} {ki as ow ca sh kiM asM owM caM shM ak : Nat → Int32} {ro rw su : Nat → Int64} (hR : Rl m pu ye ki as ow ca sh kiM asM owM caM shM) (hak : ∀ f, f < m → ak f = as f) : (∀ k, k < m → ¬ (msE rw su kiM asM shM 0 pr 0 m k).2 = 0) ∧ (msE rw su kiM asM shM 0 pr 0 m m).2 = (slR ro ki sh m).2 ∧ rcM kiM shM 0 m = rcF ki sh m ∧ (0 < (slR ro ki sh m).2.toInt ∧ (slR ro ki sh m).2.toInt ≤ 105413504) ∧ (∀ x, x < m → (msE rw su kiM asM shM 0 pr 0 m m).1.2 x = ABk (slR ro ki sh m).1 (rcF ki sh m) (opN ki sh m) (slR ro ki sh m).2 m ak x) ∧ ∀ x, x < m → 0 ≤ (ABk (slR ro ki sh m).1 (rcF ki sh m) (opN ki sh m) (slR ro ki sh m).2 m ak x).toInt ∧ (ABk (slR ro ki sh m).1 (rcF ki sh m) (opN ki sh m) (slR ro ki sh m).2 m ak x).toInt ≤ 99 * (slR ro ki sh m).2.toInt := by
  have hm := hR.1
  have hbv : ∀ f, f < m → (ki f = 1 ∨ ki f = 3) → mfv asM 0 pr 0 f = (as f).toInt64 ∧ 0 ≤ (as f).toInt ∧ (as f).toInt ≤ 99 := fun f hf _ => by
    obtain ⟨q1, q2, q3, q4, q5, q6⟩ := hR.2.2.2.2.1 f hf
    rw [mfv_0, q2]
    exact ⟨rfl, q5⟩
  obtain ⟨fd, fe, fb, fv, fr, -⟩ := fin_rent (ro := ro) (rw := rw) (su := su) (ak := ak) (Rl_Tw hR) hbv hak
  refine ⟨fd, fe, Tw_rc (Rl_Tw hR), fb, fv, fun x hx => ?_⟩
  have f2 := fr x hx
  rw [fv x hx] at f2
  exact f2
section INCOME
variable {h : AH} {Q : Option Value → AH → Prop} {pu ye bo ta ax wr w : Int32} {be : Int64} {pr im : Int32} {ow : Nat → Int32} {m r : Nat} {ab : Nat → Int64}
theorem M_income_loop (h39 : h 39 = mO (nI m) pu ye bo ta ax wr be (nI r) pr im) (h42 : h 42 = aI 8 ow) (h50 : h 50 = aJ 8 ab) (hr : r < 256) (hm : m ≤ 8) : ∀ (e i : Nat) (x5 : Option Value), i + e = m → Wp none 125 qM_incomeOf_10 [some (.ref 39), some (.int w), some (.long (icF ab r be ow pu w i)), none, some (.int (nI i)), x5] [] h Q = Q (some (.long (icF ab r be ow pu w m))) h := by
  intro e
  induction e with
  | zero =>
    intro i x5 hi
    have e : i = m := by omega
    subst e
    have hc : nI i ≤ nI i := nI_le (Nat.le_refl i) (by omega)
    simp only [qM_incomeOf_10, qM_incomeOf_92, jM_incomeOf_92, w0, w1, w2i, w2r, w3, w4, w5_0, w5_1, w5_2, w5_3, w5_4, w5_5, w5_6, w5_7, w5_8, w6_0, w6_1, w7_0, w7_1, w7_2, w7_3, w7_4, w7_5, w8_0, w8_1, w9_0, w9_1, w9_2, w10_0, w10_1, w10_2, w10_3, w10_4, w10_5, w11, w12_0, w12_1, w12_2, w12_3, w12_4, w12_5, w13_0, w13_1, w13_2, w13_3, w13_4, w13_5, w14, w15i, w15r, w16, w17, w18, w19i, w19z, w19l, w20, w21, w22, w23, w24, w25, w26, w27, w28_1, w28_2, w28_3, w28_4, w28_5, w28_6, w29, w30i, w30z, w31, w32, w33, w34, w35, w36, w37_1, w37_2, w37_3, w37_4, w37_5, w37_6, isO_O, set1_0, set1_1i, set1_1r, set1_1n, set1_1l, set1_s, set2_0, set2_1i, set2_1r, set2_1n, set2_1l, set2_s, ldv_i, ldv_l, ldv_r, ldv_s, ldi_i, ldi_s, fK_0, fK_s, gfc_O, fS_0, fS_s, uH_s, uH_n, uH_u, tl_s, tl_n, b1_0, b1_1, ite_true, ite_false, if_true, if_false, List.length_nil, List.length_cons, Nat.zero_le, Nat.zero_add, Nat.reduceAdd, Nat.reduceLeDiff, Nat.reduceLT, Nat.reduceEqDiff, Nat.reduceMul, Nat.add_left_cancel_iff, not_false_eq_true, h39, hc]
  | succ e ih =>
    intro i x5 hi
    have hc : ¬ nI m ≤ nI i := nI_ge (by omega) (by omega)
    have i8 : i < 8 := by omega
    have z0 : ∀ z : Int64, z + 0 = z := Int64.add_zero
    rw [qM_incomeOf_10]
    by_cases hb : r.testBit i = true
    · by_cases h1 : ow i = w
      · by_cases hg : pu.toInt64 * be < ab i
        · have ih := ih (i + 1) (some (.int 0)) (by omega)
          rw [icF, if_neg (fun z => by have := z.2.2; rw [fa_le64] at this; rw [fa_lt64] at hg; omega)] at ih
          simp only [qM_incomeOf_64, jM_incomeOf_64, qM_incomeOf_65, jM_incomeOf_65, qM_incomeOf_83, jM_incomeOf_83, qM_incomeOf_84, jM_incomeOf_84, jM_incomeOf_10, w0, w1, w2i, w2r, w3, w4, w5_0, w5_1, w5_2, w5_3, w5_4, w5_5, w5_6, w5_7, w5_8, w6_0, w6_1, w7_0, w7_1, w7_2, w7_3, w7_4, w7_5, w8_0, w8_1, w9_0, w9_1, w9_2, w10_0, w10_1, w10_2, w10_3, w10_4, w10_5, w11, w12_0, w12_1, w12_2, w12_3, w12_4, w12_5, w13_0, w13_1, w13_2, w13_3, w13_4, w13_5, w14, w15i, w15r, w16, w17, w18, w19i, w19z, w19l, w20, w21, w22, w23, w24, w25, w26, w27, w28_1, w28_2, w28_3, w28_4, w28_5, w28_6, w29, w30i, w30z, w31, w32, w33, w34, w35, w36, w37_1, w37_2, w37_3, w37_4, w37_5, w37_6, isO_O, set1_0, set1_1i, set1_1r, set1_1n, set1_1l, set1_s, set2_0, set2_1i, set2_1r, set2_1n, set2_1l, set2_s, ldv_i, ldv_l, ldv_r, ldv_s, ldi_i, ldi_s, fK_0, fK_s, gfc_O, fS_0, fS_s, uH_s, uH_n, uH_u, tl_s, tl_n, b1_0, b1_1, ite_true, ite_false, if_true, if_false, List.length_nil, List.length_cons, Nat.zero_le, Nat.zero_add, Nat.reduceAdd, Nat.reduceLeDiff, Nat.reduceLT, Nat.reduceEqDiff, Nat.reduceMul, Nat.add_left_cancel_iff, not_false_eq_true, i10, Bool.false_eq_true, z01, ne_eq, not_true_eq_false, not_false_eq_true, or_self, true_or, or_true, false_or, or_false, h39, h42, h50, hc, M_isKnown h39 hr i8, hb, h1, rIc_n i8 (show 8 < 2 ^ 31 by decide), rJc_n i8 (show 8 < 2 ^ 31 by decide), lg_cmp_gt, hg, nI_1, z0]
          exact ih
        · have ih := ih (i + 1) (some (.int 1)) (by omega)
          rw [icF, if_pos ⟨h1, hb, by rw [fa_lt64] at hg; rw [fa_le64]; omega⟩] at ih
          simp only [qM_incomeOf_64, jM_incomeOf_64, qM_incomeOf_65, jM_incomeOf_65, qM_incomeOf_83, jM_incomeOf_83, qM_incomeOf_84, jM_incomeOf_84, jM_incomeOf_10, w0, w1, w2i, w2r, w3, w4, w5_0, w5_1, w5_2, w5_3, w5_4, w5_5, w5_6, w5_7, w5_8, w6_0, w6_1, w7_0, w7_1, w7_2, w7_3, w7_4, w7_5, w8_0, w8_1, w9_0, w9_1, w9_2, w10_0, w10_1, w10_2, w10_3, w10_4, w10_5, w11, w12_0, w12_1, w12_2, w12_3, w12_4, w12_5, w13_0, w13_1, w13_2, w13_3, w13_4, w13_5, w14, w15i, w15r, w16, w17, w18, w19i, w19z, w19l, w20, w21, w22, w23, w24, w25, w26, w27, w28_1, w28_2, w28_3, w28_4, w28_5, w28_6, w29, w30i, w30z, w31, w32, w33, w34, w35, w36, w37_1, w37_2, w37_3, w37_4, w37_5, w37_6, isO_O, set1_0, set1_1i, set1_1r, set1_1n, set1_1l, set1_s, set2_0, set2_1i, set2_1r, set2_1n, set2_1l, set2_s, ldv_i, ldv_l, ldv_r, ldv_s, ldi_i, ldi_s, fK_0, fK_s, gfc_O, fS_0, fS_s, uH_s, uH_n, uH_u, tl_s, tl_n, b1_0, b1_1, ite_true, ite_false, if_true, if_false, List.length_nil, List.length_cons, Nat.zero_le, Nat.zero_add, Nat.reduceAdd, Nat.reduceLeDiff, Nat.reduceLT, Nat.reduceEqDiff, Nat.reduceMul, Nat.add_left_cancel_iff, not_false_eq_true, i10, Bool.false_eq_true, z01, ne_eq, not_true_eq_false, not_false_eq_true, or_self, true_or, or_true, false_or, or_false, h39, h42, h50, hc, M_isKnown h39 hr i8, hb, h1, rIc_n i8 (show 8 < 2 ^ 31 by decide), rJc_n i8 (show 8 < 2 ^ 31 by decide), lg_cmp_gt, hg, nI_1, z0]
          exact ih
      · have ih := ih (i + 1) (some (.int 0)) (by omega)
        rw [icF, if_neg (fun z => h1 z.1)] at ih
        simp only [qM_incomeOf_64, jM_incomeOf_64, qM_incomeOf_65, jM_incomeOf_65, qM_incomeOf_83, jM_incomeOf_83, qM_incomeOf_84, jM_incomeOf_84, jM_incomeOf_10, w0, w1, w2i, w2r, w3, w4, w5_0, w5_1, w5_2, w5_3, w5_4, w5_5, w5_6, w5_7, w5_8, w6_0, w6_1, w7_0, w7_1, w7_2, w7_3, w7_4, w7_5, w8_0, w8_1, w9_0, w9_1, w9_2, w10_0, w10_1, w10_2, w10_3, w10_4, w10_5, w11, w12_0, w12_1, w12_2, w12_3, w12_4, w12_5, w13_0, w13_1, w13_2, w13_3, w13_4, w13_5, w14, w15i, w15r, w16, w17, w18, w19i, w19z, w19l, w20, w21, w22, w23, w24, w25, w26, w27, w28_1, w28_2, w28_3, w28_4, w28_5, w28_6, w29, w30i, w30z, w31, w32, w33, w34, w35, w36, w37_1, w37_2, w37_3, w37_4, w37_5, w37_6, isO_O, set1_0, set1_1i, set1_1r, set1_1n, set1_1l, set1_s, set2_0, set2_1i, set2_1r, set2_1n, set2_1l, set2_s, ldv_i, ldv_l, ldv_r, ldv_s, ldi_i, ldi_s, fK_0, fK_s, gfc_O, fS_0, fS_s, uH_s, uH_n, uH_u, tl_s, tl_n, b1_0, b1_1, ite_true, ite_false, if_true, if_false, List.length_nil, List.length_cons, Nat.zero_le, Nat.zero_add, Nat.reduceAdd, Nat.reduceLeDiff, Nat.reduceLT, Nat.reduceEqDiff, Nat.reduceMul, Nat.add_left_cancel_iff, not_false_eq_true, i10, Bool.false_eq_true, z01, ne_eq, not_true_eq_false, not_false_eq_true, or_self, true_or, or_true, false_or, or_false, h39, h42, h50, hc, M_isKnown h39 hr i8, hb, h1, rIc_n i8 (show 8 < 2 ^ 31 by decide), rJc_n i8 (show 8 < 2 ^ 31 by decide), lg_cmp_gt, nI_1, z0]
        exact ih
    · have ih := ih (i + 1) (some (.int 0)) (by omega)
      rw [icF, if_neg (fun z => hb z.2.1)] at ih
      simp only [qM_incomeOf_64, jM_incomeOf_64, qM_incomeOf_65, jM_incomeOf_65, qM_incomeOf_83, jM_incomeOf_83, qM_incomeOf_84, jM_incomeOf_84, jM_incomeOf_10, w0, w1, w2i, w2r, w3, w4, w5_0, w5_1, w5_2, w5_3, w5_4, w5_5, w5_6, w5_7, w5_8, w6_0, w6_1, w7_0, w7_1, w7_2, w7_3, w7_4, w7_5, w8_0, w8_1, w9_0, w9_1, w9_2, w10_0, w10_1, w10_2, w10_3, w10_4, w10_5, w11, w12_0, w12_1, w12_2, w12_3, w12_4, w12_5, w13_0, w13_1, w13_2, w13_3, w13_4, w13_5, w14, w15i, w15r, w16, w17, w18, w19i, w19z, w19l, w20, w21, w22, w23, w24, w25, w26, w27, w28_1, w28_2, w28_3, w28_4, w28_5, w28_6, w29, w30i, w30z, w31, w32, w33, w34, w35, w36, w37_1, w37_2, w37_3, w37_4, w37_5, w37_6, isO_O, set1_0, set1_1i, set1_1r, set1_1n, set1_1l, set1_s, set2_0, set2_1i, set2_1r, set2_1n, set2_1l, set2_s, ldv_i, ldv_l, ldv_r, ldv_s, ldi_i, ldi_s, fK_0, fK_s, gfc_O, fS_0, fS_s, uH_s, uH_n, uH_u, tl_s, tl_n, b1_0, b1_1, ite_true, ite_false, if_true, if_false, List.length_nil, List.length_cons, Nat.zero_le, Nat.zero_add, Nat.reduceAdd, Nat.reduceLeDiff, Nat.reduceLT, Nat.reduceEqDiff, Nat.reduceMul, Nat.add_left_cancel_iff, not_false_eq_true, i10, Bool.false_eq_true, z01, ne_eq, not_true_eq_false, not_false_eq_true, or_self, true_or, or_true, false_or, or_false, h39, h42, h50, hc, M_isKnown h39 hr i8, hb, rIc_n i8 (show 8 < 2 ^ 31 by decide), rJc_n i8 (show 8 < 2 ^ 31 by decide), lg_cmp_gt, nI_1, z0]
      exact ih
end INCOME
theorem incM {h : AH} {m : Nat} {pu ye ta ax wr w : Int32} {be0 : Int64} {kn pr im : Int32} {ki as ow ca sh kiM asM owM caM shM ak : Nat → Int32} {ro rw su ab : Nat → Int64} (hR : Rl m pu ye ki as ow ca sh kiM asM owM caM shM) (hak : ∀ f, f < m → ak f = as f) (h39 : h 39 = mO (nI m) pu ye (nI 0) ta ax wr be0 kn pr im) (h40 : h 40 = aI 8 kiM) (h41 : h 41 = aI 8 asM) (h42 : h 42 = aI 8 owM) (h44 : h 44 = aI 64 shM) (h48 : h 48 = aJ 64 rw) (h49 : h 49 = aJ 8 su) (h50 : h 50 = aJ 8 ab) : ∃ h' : AH, (∀ Q, WpM 125 [.ref 39, .int w] h Q = Q (some (.long (icF (ABk (slR ro ki sh m).1 (rcF ki sh m) (opN ki sh m) (slR ro ki sh m).2 m ak) (rcF ki sh m) (slR ro ki sh m).2 ow pu w m))) h') ∧ h' 39 = mO (nI m) pu ye (nI 0) ta ax wr (slR ro ki sh m).2 (nI (rcF ki sh m)) pr im ∧ (∃ rw' su' ab' : Nat → Int64, h' 48 = aJ 64 rw' ∧ h' 49 = aJ 8 su' ∧ h' 50 = aJ 8 ab') ∧ NS [39, 48, 49, 50] h h' ∧ (Sh h → Sh h') := by
  have hm := hR.1
  have hr : rcF ki sh m < 256 := rcF_lt ki sh hm
  obtain ⟨fd, fe, rr, fb, fv, -⟩ := rentAt (pr := pr) (ro := ro) (rw := rw) (su := su) hR hak
  obtain ⟨h1, k1, d39, d50, ⟨rw', su', d48, d49⟩, n1, s1⟩ := solM (w := 0) h39 h40 h41 h44 h48 h49 h50 hm (show 0 < 256 by decide) fd
  rw [fe, rr] at d39
  refine ⟨h1, fun Q => ?_, d39, ⟨rw', su', _, d48, d49, d50⟩, n1, s1⟩
  have lp := M_income_loop (Q := Q) (w := w) d39 ((n1 42 (by decide)).trans h42) d50 hr hm m 0 none (by omega)
  rw [show nI 0 = 0 from rfl, icF_cong (ow' := ow) (ab' := ABk (slR ro ki sh m).1 (rcF ki sh m) (opN ki sh m) (slR ro ki sh m).2 m ak) m (fun x hx => ⟨by rw [maF_val m x hx]; exact fv x hx, (hR.2.2.2.2.1 x hx).2.2.1⟩)] at lp
  rw [← lp]
  simp only [eM_incomeOf, qM_incomeOf_0, w0, w1, w2i, w2r, w3, w4, w5_0, w5_1, w5_2, w5_3, w5_4, w5_5, w5_6, w5_7, w5_8, w6_0, w6_1, w7_0, w7_1, w7_2, w7_3, w7_4, w7_5, w8_0, w8_1, w9_0, w9_1, w9_2, w10_0, w10_1, w10_2, w10_3, w10_4, w10_5, w11, w12_0, w12_1, w12_2, w12_3, w12_4, w12_5, w13_0, w13_1, w13_2, w13_3, w13_4, w13_5, w14, w15i, w15r, w16, w17, w18, w19i, w19z, w19l, w20, w21, w22, w23, w24, w25, w26, w27, w28_1, w28_2, w28_3, w28_4, w28_5, w28_6, w29, w30i, w30z, w31, w32, w33, w34, w35, w36, w37_1, w37_2, w37_3, w37_4, w37_5, w37_6, isO_O, set1_0, set1_1i, set1_1r, set1_1n, set1_1l, set1_s, set2_0, set2_1i, set2_1r, set2_1n, set2_1l, set2_s, ldv_i, ldv_l, ldv_r, ldv_s, ldi_i, ldi_s, fK_0, fK_s, gfc_O, fS_0, fS_s, uH_s, uH_n, uH_u, tl_s, tl_n, b1_0, b1_1, ite_true, ite_false, if_true, if_false, List.length_nil, List.length_cons, Nat.zero_le, Nat.zero_add, Nat.reduceAdd, Nat.reduceLeDiff, Nat.reduceLT, Nat.reduceEqDiff, Nat.reduceMul, Nat.add_left_cancel_iff, not_false_eq_true, h39, k1]
  rfl
theorem P_income (w p : Int32) : PrL 57 126 [.int w, .int p] := by
  intro h hR
  have hR0 := hR
  obtain ⟨hS, hV1, hV2, hV3, hV4⟩ := hR
  refine RR_case hR0 ?_
  intro m l ik pu ye ki as ow ca sh ah n2 pu2 ye2 ki2 as2 ow2 ca2 sh2 ah2 n3 pu3 ye3 ki3 as3 ow3 ca3 sh3 ah3 be re op sz ab ak ro pt bt fi si th0 la0 le0 it0 th1 la1 le1 it1 th2 la2 le2 it2 th3 la3 le3 it3 ax wr bm kn pr kiM asM owM caM shM tp rd rs rw su abM kp tn td fs ss ig lns szs its mv c0 c1 c2 c3 c4 c5 c6 c7 c8 c9 c10 c11 c12 c13 c14 c15 c16 c17 c18 c19 c20 c21 c22 c23 c24 c25 c26 c27 c28 c29 c30 c31 c32 c33 c34 c35 c36 c37 c38 c39 c40 c41 c42 c43 c44 c45 c46 c47 c48 c49 c50 c51 c52 c53 c54 c55 c56 c57 c58 c59 c60 hRl hTp
  have hm : m ≤ 8 := hRl.1
  have bad : ∀ z : Int64, (∃ x : Int64, some (Value.long z) = some (.long x) ∧ some (Value.long z) = some (.long x)) ∧ RR h := fun z => ⟨⟨_, rfl, rfl⟩, hR0⟩
  by_cases a0 : w < 0 ∨ 3 < w
  · simp only [eC_income, qC_income_0, jC_income_0, qC_income_14, jC_income_14, qC_income_18, jC_income_18, w0, w1, w2i, w2r, w3, w4, w5_0, w5_1, w5_2, w5_3, w5_4, w5_5, w5_6, w5_7, w5_8, w6_0, w6_1, w7_0, w7_1, w7_2, w7_3, w7_4, w7_5, w8_0, w8_1, w9_0, w9_1, w9_2, w10_0, w10_1, w10_2, w10_3, w10_4, w10_5, w11, w12_0, w12_1, w12_2, w12_3, w12_4, w12_5, w13_0, w13_1, w13_2, w13_3, w13_4, w13_5, w14, w15i, w15r, w16, w17, w18, w19i, w19z, w19l, w20, w21, w22, w23, w24, w25, w26, w27, w28_1, w28_2, w28_3, w28_4, w28_5, w28_6, w29, w30i, w30z, w31, w32, w33, w34, w35, w36, w37_1, w37_2, w37_3, w37_4, w37_5, w37_6, isO_O, set1_0, set1_1i, set1_1r, set1_1n, set1_1l, set1_s, set2_0, set2_1i, set2_1r, set2_1n, set2_1l, set2_s, ldv_i, ldv_l, ldv_r, ldv_s, ldi_i, ldi_s, fK_0, fK_s, gfc_O, fS_0, fS_s, uH_s, uH_n, uH_u, tl_s, tl_n, b1_0, b1_1, ite_true, ite_false, if_true, if_false, List.length_nil, List.length_cons, Nat.zero_le, Nat.zero_add, Nat.reduceAdd, Nat.reduceLeDiff, Nat.reduceLT, Nat.reduceEqDiff, Nat.reduceMul, Nat.add_left_cancel_iff, not_false_eq_true, z01, ne_eq, not_true_eq_false, not_false_eq_true, or_self, true_or, or_true, false_or, or_false, i10, Bool.false_eq_true, eM_income, qM_income_0, jM_income_0, qM_income_22, jM_income_22, qM_income_26, jM_income_26, w0, w1, w2i, w2r, w3, w4, w5_0, w5_1, w5_2, w5_3, w5_4, w5_5, w5_6, w5_7, w5_8, w6_0, w6_1, w7_0, w7_1, w7_2, w7_3, w7_4, w7_5, w8_0, w8_1, w9_0, w9_1, w9_2, w10_0, w10_1, w10_2, w10_3, w10_4, w10_5, w11, w12_0, w12_1, w12_2, w12_3, w12_4, w12_5, w13_0, w13_1, w13_2, w13_3, w13_4, w13_5, w14, w15i, w15r, w16, w17, w18, w19i, w19z, w19l, w20, w21, w22, w23, w24, w25, w26, w27, w28_1, w28_2, w28_3, w28_4, w28_5, w28_6, w29, w30i, w30z, w31, w32, w33, w34, w35, w36, w37_1, w37_2, w37_3, w37_4, w37_5, w37_6, isO_O, set1_0, set1_1i, set1_1r, set1_1n, set1_1l, set1_s, set2_0, set2_1i, set2_1r, set2_1n, set2_1l, set2_s, ldv_i, ldv_l, ldv_r, ldv_s, ldi_i, ldi_s, fK_0, fK_s, gfc_O, fS_0, fS_s, uH_s, uH_n, uH_u, tl_s, tl_n, b1_0, b1_1, ite_true, ite_false, if_true, if_false, List.length_nil, List.length_cons, Nat.zero_le, Nat.zero_add, Nat.reduceAdd, Nat.reduceLeDiff, Nat.reduceLT, Nat.reduceEqDiff, Nat.reduceMul, Nat.add_left_cancel_iff, not_false_eq_true, z01, ne_eq, not_true_eq_false, not_false_eq_true, or_self, true_or, or_true, false_or, or_false, i10, Bool.false_eq_true, C_isOwner, M_in, wd0, wd3, a0]; exact bad _
  by_cases p0 : p = 0 ∨ p = 1
  rotate_left
  · simp only [eC_income, qC_income_0, jC_income_0, qC_income_14, jC_income_14, qC_income_18, jC_income_18, w0, w1, w2i, w2r, w3, w4, w5_0, w5_1, w5_2, w5_3, w5_4, w5_5, w5_6, w5_7, w5_8, w6_0, w6_1, w7_0, w7_1, w7_2, w7_3, w7_4, w7_5, w8_0, w8_1, w9_0, w9_1, w9_2, w10_0, w10_1, w10_2, w10_3, w10_4, w10_5, w11, w12_0, w12_1, w12_2, w12_3, w12_4, w12_5, w13_0, w13_1, w13_2, w13_3, w13_4, w13_5, w14, w15i, w15r, w16, w17, w18, w19i, w19z, w19l, w20, w21, w22, w23, w24, w25, w26, w27, w28_1, w28_2, w28_3, w28_4, w28_5, w28_6, w29, w30i, w30z, w31, w32, w33, w34, w35, w36, w37_1, w37_2, w37_3, w37_4, w37_5, w37_6, isO_O, set1_0, set1_1i, set1_1r, set1_1n, set1_1l, set1_s, set2_0, set2_1i, set2_1r, set2_1n, set2_1l, set2_s, ldv_i, ldv_l, ldv_r, ldv_s, ldi_i, ldi_s, fK_0, fK_s, gfc_O, fS_0, fS_s, uH_s, uH_n, uH_u, tl_s, tl_n, b1_0, b1_1, ite_true, ite_false, if_true, if_false, List.length_nil, List.length_cons, Nat.zero_le, Nat.zero_add, Nat.reduceAdd, Nat.reduceLeDiff, Nat.reduceLT, Nat.reduceEqDiff, Nat.reduceMul, Nat.add_left_cancel_iff, not_false_eq_true, z01, ne_eq, not_true_eq_false, not_false_eq_true, or_self, true_or, or_true, false_or, or_false, i10, Bool.false_eq_true, eM_income, qM_income_0, jM_income_0, qM_income_22, jM_income_22, qM_income_26, jM_income_26, w0, w1, w2i, w2r, w3, w4, w5_0, w5_1, w5_2, w5_3, w5_4, w5_5, w5_6, w5_7, w5_8, w6_0, w6_1, w7_0, w7_1, w7_2, w7_3, w7_4, w7_5, w8_0, w8_1, w9_0, w9_1, w9_2, w10_0, w10_1, w10_2, w10_3, w10_4, w10_5, w11, w12_0, w12_1, w12_2, w12_3, w12_4, w12_5, w13_0, w13_1, w13_2, w13_3, w13_4, w13_5, w14, w15i, w15r, w16, w17, w18, w19i, w19z, w19l, w20, w21, w22, w23, w24, w25, w26, w27, w28_1, w28_2, w28_3, w28_4, w28_5, w28_6, w29, w30i, w30z, w31, w32, w33, w34, w35, w36, w37_1, w37_2, w37_3, w37_4, w37_5, w37_6, isO_O, set1_0, set1_1i, set1_1r, set1_1n, set1_1l, set1_s, set2_0, set2_1i, set2_1r, set2_1n, set2_1l, set2_s, ldv_i, ldv_l, ldv_r, ldv_s, ldi_i, ldi_s, fK_0, fK_s, gfc_O, fS_0, fS_s, uH_s, uH_n, uH_u, tl_s, tl_n, b1_0, b1_1, ite_true, ite_false, if_true, if_false, List.length_nil, List.length_cons, Nat.zero_le, Nat.zero_add, Nat.reduceAdd, Nat.reduceLeDiff, Nat.reduceLT, Nat.reduceEqDiff, Nat.reduceMul, Nat.add_left_cancel_iff, not_false_eq_true, z01, ne_eq, not_true_eq_false, not_false_eq_true, or_self, true_or, or_true, false_or, or_false, i10, Bool.false_eq_true, C_isOwner, M_in, wd0, wd1, wd3, a0, C_isPart, part_eq, p0]; exact bad _
  have hr : rcF ki sh m < 256 := rcF_lt ki sh hm
  obtain ⟨h1, k1, d22, d23, d24, d25, n1, s1⟩ := solC (t := 1) (by decide) c22 c23 c24 c25 c1 c2 c3 c6 hm
  have n1' : NS SC h h1 := n1.m (by decide)
  obtain ⟨-, -, -, fb, -, fr⟩ := rentAt (pr := pr) (ro := ro) (rw := rw) (su := su) (ak := va_cpy as ak 0 0 8) hRl (fun f hf => cpy8 (by omega))
  have d39 := (n1 39 (by decide)).trans c39
  obtain ⟨h2, k2, e39, -, n2, s2⟩ := incM (w := w) (ak := va_cpy as ak 0 0 8) (ro := ro) hRl (fun f hf => cpy8 (by omega)) d39 ((n1 40 (by decide)).trans c40) ((n1 41 (by decide)).trans c41) ((n1 42 (by decide)).trans c42) ((n1 44 (by decide)).trans c44) ((n1 48 (by decide)).trans c48) ((n1 49 (by decide)).trans c49) ((n1 50 (by decide)).trans c50)
  obtain ⟨D, D0, D1, De⟩ := lN_D fb
  have hDI : (slR ro ki sh m).2.toInt = D := by rw [De, lN_toI (by omega)]
  rw [hDI] at fr
  have ib := icF_bd (r := rcF ki sh m) (be := (slR ro ki sh m).2) (ow := ow) (pu := pu) (w := w) D1 hm fr m (Nat.le_refl m)
  have ic : icF (abF ab (slR ro ki sh m).1 (rcF ki sh m) (opN ki sh m) (slR ro ki sh m).2 (va_cpy as ak 0 0 8) m m) (rcF ki sh m) (slR ro ki sh m).2 ow pu w m = icF (ABk (slR ro ki sh m).1 (rcF ki sh m) (opN ki sh m) (slR ro ki sh m).2 m (va_cpy as ak 0 0 8)) (rcF ki sh m) (slR ro ki sh m).2 ow pu w m := icF_cong m (fun x hx => ⟨abF_val m x hx, rfl⟩)
  have d0 := (n1 0 (by decide)).trans c0
  have hRR : RR h2 := RR_ns hR0 (s2 (s1 hS)) ((n1.m (by decide)).t (n2.m (by decide))) c39 e39
  have fin := fun (h : AH) (Q : Option Value → AH → Prop) => C_lowest (h := h) (Q := Q) (p := p) (show -9223372036854775808 < (icF (ABk (slR ro ki sh m).1 (rcF ki sh m) (opN ki sh m) (slR ro ki sh m).2 m (va_cpy as ak 0 0 8)) (rcF ki sh m) (slR ro ki sh m).2 ow pu w m).toInt by omega) (show D < 2 ^ 63 by omega) D0
  have finM := fun (h : AH) (Q : Option Value → AH → Prop) => M_lowest (h := h) (Q := Q) (p := p) (show -9223372036854775808 < (icF (ABk (slR ro ki sh m).1 (rcF ki sh m) (opN ki sh m) (slR ro ki sh m).2 m (va_cpy as ak 0 0 8)) (rcF ki sh m) (slR ro ki sh m).2 ow pu w m).toInt by omega) (show D < 2 ^ 63 by omega) D0
  rw [← De] at fin finM
  simp only [eC_income, qC_income_0, jC_income_0, qC_income_14, jC_income_14, qC_income_18, jC_income_18, w0, w1, w2i, w2r, w3, w4, w5_0, w5_1, w5_2, w5_3, w5_4, w5_5, w5_6, w5_7, w5_8, w6_0, w6_1, w7_0, w7_1, w7_2, w7_3, w7_4, w7_5, w8_0, w8_1, w9_0, w9_1, w9_2, w10_0, w10_1, w10_2, w10_3, w10_4, w10_5, w11, w12_0, w12_1, w12_2, w12_3, w12_4, w12_5, w13_0, w13_1, w13_2, w13_3, w13_4, w13_5, w14, w15i, w15r, w16, w17, w18, w19i, w19z, w19l, w20, w21, w22, w23, w24, w25, w26, w27, w28_1, w28_2, w28_3, w28_4, w28_5, w28_6, w29, w30i, w30z, w31, w32, w33, w34, w35, w36, w37_1, w37_2, w37_3, w37_4, w37_5, w37_6, isO_O, set1_0, set1_1i, set1_1r, set1_1n, set1_1l, set1_s, set2_0, set2_1i, set2_1r, set2_1n, set2_1l, set2_s, ldv_i, ldv_l, ldv_r, ldv_s, ldi_i, ldi_s, fK_0, fK_s, gfc_O, fS_0, fS_s, uH_s, uH_n, uH_u, tl_s, tl_n, b1_0, b1_1, ite_true, ite_false, if_true, if_false, List.length_nil, List.length_cons, Nat.zero_le, Nat.zero_add, Nat.reduceAdd, Nat.reduceLeDiff, Nat.reduceLT, Nat.reduceEqDiff, Nat.reduceMul, Nat.add_left_cancel_iff, not_false_eq_true, z01, ne_eq, not_true_eq_false, not_false_eq_true, or_self, true_or, or_true, false_or, or_false, i10, Bool.false_eq_true, C_isOwner, a0, C_isPart, p0, c0, c22, k1, d0, d22, R_incomeAbove (t := 1) d22 d23 ((n1 1 (by decide)).trans c1) ((n1 4 (by decide)).trans c4) hr hm, ic, fin]
  simp only [eM_income, qM_income_0, jM_income_0, qM_income_22, jM_income_22, qM_income_26, jM_income_26, w0, w1, w2i, w2r, w3, w4, w5_0, w5_1, w5_2, w5_3, w5_4, w5_5, w5_6, w5_7, w5_8, w6_0, w6_1, w7_0, w7_1, w7_2, w7_3, w7_4, w7_5, w8_0, w8_1, w9_0, w9_1, w9_2, w10_0, w10_1, w10_2, w10_3, w10_4, w10_5, w11, w12_0, w12_1, w12_2, w12_3, w12_4, w12_5, w13_0, w13_1, w13_2, w13_3, w13_4, w13_5, w14, w15i, w15r, w16, w17, w18, w19i, w19z, w19l, w20, w21, w22, w23, w24, w25, w26, w27, w28_1, w28_2, w28_3, w28_4, w28_5, w28_6, w29, w30i, w30z, w31, w32, w33, w34, w35, w36, w37_1, w37_2, w37_3, w37_4, w37_5, w37_6, isO_O, set1_0, set1_1i, set1_1r, set1_1n, set1_1l, set1_s, set2_0, set2_1i, set2_1r, set2_1n, set2_1l, set2_s, ldv_i, ldv_l, ldv_r, ldv_s, ldi_i, ldi_s, fK_0, fK_s, gfc_O, fS_0, fS_s, uH_s, uH_n, uH_u, tl_s, tl_n, b1_0, b1_1, ite_true, ite_false, if_true, if_false, List.length_nil, List.length_cons, Nat.zero_le, Nat.zero_add, Nat.reduceAdd, Nat.reduceLeDiff, Nat.reduceLT, Nat.reduceEqDiff, Nat.reduceMul, Nat.add_left_cancel_iff, not_false_eq_true, z01, ne_eq, not_true_eq_false, not_false_eq_true, or_self, true_or, or_true, false_or, or_false, i10, Bool.false_eq_true, M_in, wd0, wd1, wd3, a0, part_eq, p0, d39, k2, e39, finM]
  exact ⟨⟨_, rfl, rfl⟩, hRR⟩
/-- the best so far, and how much it is -/
def bst (inc : Nat → Int64) : Nat → Int32 × Int64
  | 0 => (0, -1)
  | v + 1 => if (bst inc v).2 < inc v then (nI v, inc v) else bst inc v
theorem rpF_val {ab ro : Nat → Int64} {r o : Nat} {be : Int64} {f : Nat} {more : Int32} : ∀ n x, rpF ab ro r o be f more n x = if x < n ∧ r.testBit x = true then ab x + more.toInt64 * mvA ro o be x f else ab x
  | 0, x => by rw [if_neg (by omega)]; rfl
  | n + 1, x => by
    have ih := rpF_val (ab := ab) (ro := ro) (r := r) (o := o) (be := be) (f := f) (more := more) n
    rw [rpF]
    by_cases hb : r.testBit n = true
    · rw [if_pos hb]
      by_cases e : x = n
      · subst e
        rw [if_pos ⟨by omega, hb⟩]
        unfold vp_updL
        rw [if_pos rfl, ih x, if_neg (by omega)]
      · have h2 : vp_updL (rpF ab ro r o be f more n) n (rpF ab ro r o be f more n n + more.toInt64 * mvA ro o be n f) x = rpF ab ro r o be f more n x := by unfold vp_updL; rw [if_neg e]
        rw [h2, ih x]
        by_cases c : x < n ∧ r.testBit x = true
        · rw [if_pos c, if_pos ⟨by omega, c.2⟩]
        · rw [if_neg c, if_neg (fun z => c ⟨by omega, z.2⟩)]
    · rw [if_neg hb, ih x]
      by_cases c : x < n ∧ r.testBit x = true
      · rw [if_pos c, if_pos ⟨by omega, c.2⟩]
      · rw [if_neg c, if_neg (fun z => c ⟨by
          have : x ≠ n := fun y => hb (by rw [← y]; exact z.2)
          omega, z.2⟩)]
theorem raF_upd {ro : Nat → Int64} {r o : Nat} {be : Int64} {ak : Nat → Int32} {x g : Nat} {v : Int32} (hg : (andn r o).testBit g = true) : ∀ i, raF ro r o be (upd ak g v) x i = if g < i then raF ro r o be ak x i + (v.toInt64 - (ak g).toInt64) * mvA ro o be x g else raF ro r o be ak x i
  | 0 => by rw [if_neg (by omega)]; rfl
  | i + 1 => by
    have ih := raF_upd (ro := ro) (be := be) (ak := ak) (x := x) (v := v) hg i
    rw [raF, raF]
    by_cases e : i = g
    · subst e
      rw [if_pos hg, if_pos hg, if_pos (by omega), ih, if_neg (by omega), upd_s]
      grind
    · rw [upd_n e, ih]
      by_cases c : g < i
      · rw [if_pos c, if_pos (show g < i + 1 by omega)]
        by_cases hb : (andn r o).testBit i = true
        · rw [if_pos hb, if_pos hb]; grind
        · rw [if_neg hb, if_neg hb]
      · rw [if_neg c, if_neg (show ¬ g < i + 1 by omega)]
theorem wide_sub {a b : Int32} (ha : 0 ≤ a.toInt ∧ a.toInt ≤ 99) (hb : 0 ≤ b.toInt ∧ b.toInt ≤ 99) : (a - b).toInt64 = a.toInt64 - b.toInt64 := by
  apply Int64.toInt_inj.mp
  rw [Int32.toInt_toInt64, fb_subI (by omega) (by omega), fb_subL (by rw [Int32.toInt_toInt64, Int32.toInt_toInt64]; omega) (by rw [Int32.toInt_toInt64, Int32.toInt_toInt64]; omega), Int32.toInt_toInt64, Int32.toInt_toInt64]
/-- a fixed house asks otherwise -/
theorem rp_AB {ro ab : Nat → Int64} {r o m g : Nat} {be : Int64} {ak : Nat → Int32} {v : Int32} (hg : (andn r o).testBit g = true) (hgm : g < m) (hv : 0 ≤ v.toInt ∧ v.toInt ≤ 99) (hk : 0 ≤ (ak g).toInt ∧ (ak g).toInt ≤ 99) (hab : ∀ x, x < m → ab x = ABk ro r o be m ak x) : ∀ x, x < m → rpF ab ro r o be g (v - ak g) m x = ABk ro r o be m (upd ak g v) x := by
  intro x hx
  rw [rpF_val m x, hab x hx]
  unfold ABk
  by_cases hb : r.testBit x = true
  · rw [if_pos ⟨hx, hb⟩, if_pos hb, if_pos hb, raF_upd hg m, if_pos hgm, wide_sub hv hk]
  · rw [if_neg (fun z => hb z.2), if_neg hb, if_neg hb]

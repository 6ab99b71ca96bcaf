/-! the shares of a text: a step, all -/
theorem psE {h : AH} {n a b : Nat} {pu ye v : Int32} {sh : Nat → Int32} (h15 : h 15 = tO 15 (nI n) pu ye) (h20 : h 20 = aI 64 sh) (ha : a < 8) (hb : b < 8) : ∃ g : AH, (∀ Q, WpM 30 [.ref 15, .int (nI a), .int (nI b), .int v] h Q = Q none g) ∧ g 20 = aI 64 (ps sh a b v) ∧ NS [20] h g ∧ (Sh h → Sh g) := ⟨_, fun Q => T_putShare (t := 15) h15 h20 ha hb, uH_s _ _ _, NS.r.u (by decide), fun hS => sh_20 hS⟩
theorem incE {h : AH} {l c : Nat} (_ : h 26 = aO 2 [.ref 27, .int (nI l), .int (nI c)]) : ∃ q : AH, q = uH h 26 (aO 2 [.ref 27, .int (nI l), .int (nI (c + 1))]) ∧ q 26 = aO 2 [.ref 27, .int (nI l), .int (nI (c + 1))] ∧ NS [26] h q ∧ (Sh h → Sh q) := ⟨_, rfl, uH_s _ _ _, NS.r.u (by decide), fun z => sh_26 z⟩
theorem shares_step {tb : Nat → Nat} {l : Nat} {bt tp : Nat → Int32} {pu3 ye3 ho pu ye bo : Int32} {be : Int64} {kn pr im : Int32} (hT : Tb tb l) (hbt : ∀ k, k < l → bt k = nI (tb k)) (htp : ∀ k, k < l → tp k = nI (tb k)) {n k p : Nat} {T : Int64} {sh rs : Nat → Int32} (hn : 1 ≤ n ∧ n ≤ 8) (hk : k < 12) (hp : p ≤ l) (hI : IV n T sh rs) (ih : k + 1 < 12 → ∀ (p' : Nat) (T' : Int64) (sh' rs' : Nat → Int32), p' ≤ l → IV n T' sh' rs' → SO2 tb l bt tp pu3 ye3 ho pu ye bo be kn pr im n (k + 1) p' T' sh' rs') : SO2 tb l bt tp pu3 ye3 ho pu ye bo be kn pr im n k p T sh rs := by
  have hl := hT.1
  have hc12 : ¬ (12 : Int32) ≤ nI k := nI_ge (b := 12) (by omega) (by decide)
  have e47 : (47 : Int32) + nI n = nI (47 + n) := by rw [show (47 : Int32) = nI 47 from rfl, nI_add]
  have e48 : (48 : Int32) = nI 48 := rfl
  obtain ⟨c1, hc1⟩ : ∃ c, c = sk tb l p := ⟨_, rfl⟩
  have lc1 := sk_le (tb := tb) hp
  rw [← hc1] at lc1
  have n10' : n ≤ 10 := by omega
  by_cases D1 : isD tb l n c1
  rotate_left
  · -- no first digit
    refine ⟨1, c1, T, sh, rs, lc1.2, fun z => absurd z (by decide), fun z => absurd z (by decide), by decide, fun h x5 x6 x7 x8 hc => ?_, fun g y4 y5 y6 y7 hm => ?_⟩
    · obtain ⟨h15, h20, h26, h27⟩ := hc
      rw [hc1] at D1
      obtain ⟨h1, k1, d26, n1, s1⟩ := rdE0 hT hbt n10' hp h26 h27 D1
      rw [← hc1] at d26
      refine ⟨h1, fun Q => ?_, fun z => absurd z (by decide), d26, n1.m (by decide), s1⟩
      rw [qP_readShares_5, if_neg (by decide)]
      simp only [w0, w1, w2i, w2r, w3, w4, w5_0, w5_1, w5_2, w5_3, w5_4, w5_5, w5_6, w5_7, w5_8, w6_0, w6_1, w7_0, w7_1, w7_2, w7_3, w7_4, w7_5, w8_0, w8_1, w9_0, w9_1, w9_2, w10_0, w10_1, w10_2, w10_3, w10_4, w10_5, w11, w12_0, w12_1, w12_2, w12_3, w12_4, w12_5, w13_0, w13_1, w13_2, w13_3, w13_4, w13_5, w14, w15i, w15r, w16, w17, w18, w19i, w19z, w19l, w20, w21, w22, w23, w24, w25, w26, w27, w28_1, w28_2, w28_3, w28_4, w28_5, w28_6, w29, w30i, w30z, w31, w32, w33, w34, w35, w36, w37_1, w37_2, w37_3, w37_4, w37_5, w37_6, isO_O, set1_0, set1_1i, set1_1r, set1_1n, set1_1l, set1_s, set2_0, set2_1i, set2_1r, set2_1n, set2_1l, set2_s, ldv_i, ldv_l, ldv_r, ldv_s, ldi_i, ldi_s, fK_0, fK_s, gfc_O, fS_0, fS_s, uH_s, uH_n, uH_u, tl_s, tl_n, b1_0, b1_1, ite_true, ite_false, if_true, if_false, List.length_nil, List.length_cons, Nat.zero_le, Nat.zero_add, Nat.reduceAdd, Nat.reduceLeDiff, Nat.reduceLT, Nat.reduceEqDiff, Nat.reduceMul, Nat.add_left_cancel_iff, not_false_eq_true, i10, Bool.false_eq_true, z01, ne_eq, not_true_eq_false, not_false_eq_true, or_self, true_or, or_true, false_or, or_false, hc12, h15, h26, k1, i44, d26, P_fault d26]
    · obtain ⟨h39, h45, h47⟩ := hm
      obtain ⟨g1, z1, k1, d39, n1, s1⟩ := muE0 (lo := 48) (hi := 47 + n) hT htp (by omega) hp h39 h45 (fun z => D1 (by rw [hc1]; exact ⟨z.1, z.2.1, by omega⟩))
      rw [← hc1] at d39
      obtain ⟨g2, z2, k2, f39, n2, s2⟩ := muW (lo := nI 48) (hi := nI (47 + n)) d39
      obtain ⟨g3, k3, i39, n3, s3⟩ := M_out3 (n := n) (z4 := z1) (z5 := z2) (y6 := y6) (y7 := y7) f39 hk
      refine ⟨g3, 0, fun Q => ?_, fun _ => i39, fun z => absurd rfl z, ((n1.t n2).t n3).m (by decide), fun z => s3 (s2 (s1 z))⟩
      rw [← k3 Q, qM_readPairs_4]
      simp only [jM_readPairs_66, w0, w1, w2i, w2r, w3, w4, w5_0, w5_1, w5_2, w5_3, w5_4, w5_5, w5_6, w5_7, w5_8, w6_0, w6_1, w7_0, w7_1, w7_2, w7_3, w7_4, w7_5, w8_0, w8_1, w9_0, w9_1, w9_2, w10_0, w10_1, w10_2, w10_3, w10_4, w10_5, w11, w12_0, w12_1, w12_2, w12_3, w12_4, w12_5, w13_0, w13_1, w13_2, w13_3, w13_4, w13_5, w14, w15i, w15r, w16, w17, w18, w19i, w19z, w19l, w20, w21, w22, w23, w24, w25, w26, w27, w28_1, w28_2, w28_3, w28_4, w28_5, w28_6, w29, w30i, w30z, w31, w32, w33, w34, w35, w36, w37_1, w37_2, w37_3, w37_4, w37_5, w37_6, isO_O, set1_0, set1_1i, set1_1r, set1_1n, set1_1l, set1_s, set2_0, set2_1i, set2_1r, set2_1n, set2_1l, set2_s, ldv_i, ldv_l, ldv_r, ldv_s, ldi_i, ldi_s, fK_0, fK_s, gfc_O, fS_0, fS_s, uH_s, uH_n, uH_u, tl_s, tl_n, b1_0, b1_1, ite_true, ite_false, if_true, if_false, List.length_nil, List.length_cons, Nat.zero_le, Nat.zero_add, Nat.reduceAdd, Nat.reduceLeDiff, Nat.reduceLT, Nat.reduceEqDiff, Nat.reduceMul, Nat.add_left_cancel_iff, not_false_eq_true, i10, Bool.false_eq_true, z01, ne_eq, not_true_eq_false, not_false_eq_true, or_self, true_or, or_true, false_or, or_false, h39, e47, e48, k1, d39, k2, f39]
  have tc1 := hT.2 _ D1.1
  obtain ⟨a, ha⟩ : ∃ a, a = tb c1 - 48 := ⟨_, rfl⟩
  have an : a < n := by have := D1.2; omega
  have c11 : c1 + 1 ≤ l := by have := D1.1; omega
  obtain ⟨c2, hc2⟩ : ∃ c, c = sk tb l (c1 + 1) := ⟨_, rfl⟩
  have lc2 := sk_le (tb := tb) c11
  rw [← hc2] at lc2
  -- both up to the second sign
  have C2 : ∀ h, HS l bt pu3 ye3 n p sh h → ∃ h1 h2, (∀ Q, WpM 23 [.ref 26, .int (nI n)] h Q = Q (some (.int (nI a))) h1) ∧ h1 26 = aO 2 [.ref 27, .int (nI l), .int (nI (c1 + 1))] ∧ h1 15 = tO 15 (nI n) pu3 ye3 ∧ (∀ Q, WpM 20 [.ref 26] h1 Q = Q (some (.int (sgC tb l c2))) h2) ∧ HS l bt pu3 ye3 n c2 sh h2 ∧ NS [26] h h2 ∧ (Sh h → Sh h2) := by
    intro h hc
    obtain ⟨h15, h20, h26, h27⟩ := hc
    rw [hc1] at D1
    obtain ⟨h1, k1, d26, n1, s1⟩ := rdE hT hbt n10' hp h26 h27 D1
    rw [← hc1] at d26 k1
    rw [← ha] at k1
    obtain ⟨h2, k2, f26, n2, s2⟩ := nsE hT hbt c11 d26 ((n1 27 (by decide)).trans h27)
    rw [← hc2] at k2 f26
    exact ⟨h1, h2, k1, d26, (n1 15 (by decide)).trans h15, k2, ⟨(n2 15 (by decide)).trans ((n1 15 (by decide)).trans h15), (n2 20 (by decide)).trans ((n1 20 (by decide)).trans h20), f26, (n2 27 (by decide)).trans ((n1 27 (by decide)).trans h27)⟩, n1.t n2, fun z => s2 (s1 z)⟩
  have M1 : ∀ g, HT l tp ho pu ye bo be kn pr im p rs g → ∃ g1, (∀ Q, WpM 105 [.ref 39, .int (nI 48), .int (nI (47 + n))] g Q = Q (some (.int (nI a))) g1) ∧ HT l tp ho pu ye bo be kn pr im (c1 + 1) rs g1 ∧ NS [39] g g1 ∧ (Sh g → Sh g1) := by
    intro g hm
    obtain ⟨h39, h45, h47⟩ := hm
    obtain ⟨g1, k1, d39, n1, s1⟩ := muE (lo := 48) (hi := 47 + n) hT htp (by omega) hp h39 h45 (by rw [← hc1]; exact ⟨D1.1, D1.2.1, by have := D1.2.2; omega⟩)
    rw [← hc1] at d39 k1
    rw [← ha] at k1
    exact ⟨g1, k1, ⟨d39, (n1 45 (by decide)).trans h45, (n1 47 (by decide)).trans h47⟩, n1, s1⟩
  by_cases D2 : isD tb l n c2
  rotate_left
  · refine ⟨1, c2, T, sh, rs, lc2.2, fun z => absurd z (by decide), fun z => absurd z (by decide), by decide, fun h x5 x6 x7 x8 hc => ?_, fun g y4 y5 y6 y7 hm => ?_⟩
    · have h15 := hc.1
      have h26 := hc.2.2.1
      obtain ⟨h1, h2, k1, d26, d15, k2, hc2', n2, s2⟩ := C2 h hc
      have f26 := hc2'.2.2.1
      have f15 := hc2'.1
      refine ⟨h2, fun Q => ?_, fun z => absurd z (by decide), f26, n2.m (by decide), s2⟩
      rw [qP_readShares_5, if_neg (by decide)]
      simp only [qP_readShares_34, jP_readShares_34, qP_readShares_77, jP_readShares_77, w0, w1, w2i, w2r, w3, w4, w5_0, w5_1, w5_2, w5_3, w5_4, w5_5, w5_6, w5_7, w5_8, w6_0, w6_1, w7_0, w7_1, w7_2, w7_3, w7_4, w7_5, w8_0, w8_1, w9_0, w9_1, w9_2, w10_0, w10_1, w10_2, w10_3, w10_4, w10_5, w11, w12_0, w12_1, w12_2, w12_3, w12_4, w12_5, w13_0, w13_1, w13_2, w13_3, w13_4, w13_5, w14, w15i, w15r, w16, w17, w18, w19i, w19z, w19l, w20, w21, w22, w23, w24, w25, w26, w27, w28_1, w28_2, w28_3, w28_4, w28_5, w28_6, w29, w30i, w30z, w31, w32, w33, w34, w35, w36, w37_1, w37_2, w37_3, w37_4, w37_5, w37_6, isO_O, set1_0, set1_1i, set1_1r, set1_1n, set1_1l, set1_s, set2_0, set2_1i, set2_1r, set2_1n, set2_1l, set2_s, ldv_i, ldv_l, ldv_r, ldv_s, ldi_i, ldi_s, fK_0, fK_s, gfc_O, fS_0, fS_s, uH_s, uH_n, uH_u, tl_s, tl_n, b1_0, b1_1, ite_true, ite_false, if_true, if_false, List.length_nil, List.length_cons, Nat.zero_le, Nat.zero_add, Nat.reduceAdd, Nat.reduceLeDiff, Nat.reduceLT, Nat.reduceEqDiff, Nat.reduceMul, Nat.add_left_cancel_iff, not_false_eq_true, i10, Bool.false_eq_true, z01, ne_eq, not_true_eq_false, not_false_eq_true, or_self, true_or, or_true, false_or, or_false, hc12, h15, h26, k1, dg_ne (show a < 256 by omega), d26, k2, f15, P_dg0 hT n10' D2, i44, f26, P_fault f26]
    · have h39 := hm.1
      obtain ⟨g1, k1, hm1, n1, s1⟩ := M1 g hm
      have d39 := hm1.1
      obtain ⟨g2, z2, k2, f39, n2, s2⟩ := muE0 (lo := 48) (hi := 47 + n) hT htp (by omega) c11 d39 hm1.2.1 (fun z => D2 (by rw [hc2]; exact ⟨z.1, z.2.1, by omega⟩))
      rw [← hc2] at f39
      obtain ⟨g3, k3, i39, n3, s3⟩ := M_out3 (n := n) (z4 := nI a) (z5 := z2) (y6 := y6) (y7 := y7) f39 hk
      refine ⟨g3, 0, fun Q => ?_, fun _ => i39, fun z => absurd rfl z, ((n1.t n2).t n3).m (by decide), fun z => s3 (s2 (s1 z))⟩
      rw [← k3 Q, qM_readPairs_4]
      simp only [jM_readPairs_66, w0, w1, w2i, w2r, w3, w4, w5_0, w5_1, w5_2, w5_3, w5_4, w5_5, w5_6, w5_7, w5_8, w6_0, w6_1, w7_0, w7_1, w7_2, w7_3, w7_4, w7_5, w8_0, w8_1, w9_0, w9_1, w9_2, w10_0, w10_1, w10_2, w10_3, w10_4, w10_5, w11, w12_0, w12_1, w12_2, w12_3, w12_4, w12_5, w13_0, w13_1, w13_2, w13_3, w13_4, w13_5, w14, w15i, w15r, w16, w17, w18, w19i, w19z, w19l, w20, w21, w22, w23, w24, w25, w26, w27, w28_1, w28_2, w28_3, w28_4, w28_5, w28_6, w29, w30i, w30z, w31, w32, w33, w34, w35, w36, w37_1, w37_2, w37_3, w37_4, w37_5, w37_6, isO_O, set1_0, set1_1i, set1_1r, set1_1n, set1_1l, set1_s, set2_0, set2_1i, set2_1r, set2_1n, set2_1l, set2_s, ldv_i, ldv_l, ldv_r, ldv_s, ldi_i, ldi_s, fK_0, fK_s, gfc_O, fS_0, fS_s, uH_s, uH_n, uH_u, tl_s, tl_n, b1_0, b1_1, ite_true, ite_false, if_true, if_false, List.length_nil, List.length_cons, Nat.zero_le, Nat.zero_add, Nat.reduceAdd, Nat.reduceLeDiff, Nat.reduceLT, Nat.reduceEqDiff, Nat.reduceMul, Nat.add_left_cancel_iff, not_false_eq_true, i10, Bool.false_eq_true, z01, ne_eq, not_true_eq_false, not_false_eq_true, or_self, true_or, or_true, false_or, or_false, h39, e47, e48, k1, d39, k2, f39]
  have tc2 := hT.2 _ D2.1
  obtain ⟨b, hb⟩ : ∃ b, b = tb c2 - 48 := ⟨_, rfl⟩
  have bn : b < n := by have := D2.2; omega
  have a8 : a < 8 := by omega
  have b8 : b < 8 := by omega
  have c21 : c2 + 1 ≤ l := by have := D2.1; omega
  have pl : pp a b < 64 := pp_lt a a8 b b8
  have ppe := pp_eq a a8 b b8
  have eab : (nI a = nI b) = (a = b) := propext (nI_eq (by omega) (by omega))
  have bt' := bitT T pl
  have dg2 := fun (h : AH) (Q : Option Value → AH → Prop) => P_dg (h := h) (Q := Q) hT n10' D2
  rw [← hb] at dg2
  have M2 : ∀ g, HT l tp ho pu ye bo be kn pr im p rs g → ∃ g1 g2, (∀ Q, WpM 105 [.ref 39, .int (nI 48), .int (nI (47 + n))] g Q = Q (some (.int (nI a))) g1) ∧ g1 39 = mO ho pu ye bo (nI l) (nI (c1 + 1)) 0 be kn pr im ∧ (∀ Q, WpM 105 [.ref 39, .int (nI 48), .int (nI (47 + n))] g1 Q = Q (some (.int (nI b))) g2) ∧ HT l tp ho pu ye bo be kn pr im (c2 + 1) rs g2 ∧ NS [39] g g2 ∧ (Sh g → Sh g2) := by
    intro g hm
    obtain ⟨g1, k1, hm1, n1, s1⟩ := M1 g hm
    obtain ⟨d39, d45, d47⟩ := hm1
    obtain ⟨g2, k2, f39, n2, s2⟩ := muE (lo := 48) (hi := 47 + n) hT htp (by omega) c11 d39 d45 (by rw [← hc2]; exact ⟨D2.1, D2.2.1, by have := D2.2.2; omega⟩)
    rw [← hc2] at f39 k2
    rw [← hb] at k2
    exact ⟨g1, g2, k1, d39, k2, ⟨f39, (n2 45 (by decide)).trans d45, (n2 47 (by decide)).trans d47⟩, n1.t n2, fun z => s2 (s1 z)⟩
  have r64 := fun (f : Nat → Int32) (K : Int32 → Prop) (q : Nat) => rIc_n (X := none) (a := q) (f := f) (K := K) (show 8 * a + b < 64 by omega) (show 64 < 2 ^ 31 by decide)
  by_cases BAD : a = b ∨ bL T (pp a b)
  · refine ⟨1, c2, T, sh, rs, lc2.2, fun z => absurd z (by decide), fun z => absurd z (by decide), by decide, fun h x5 x6 x7 x8 hc => ?_, fun g y4 y5 y6 y7 hm => ?_⟩
    · have h15 := hc.1
      have h26 := hc.2.2.1
      obtain ⟨h1, h2, k1, d26, d15, k2, hc2', n2, s2⟩ := C2 h hc
      have f26 := hc2'.2.2.1
      have f15 := hc2'.1
      refine ⟨h2, fun Q => ?_, fun z => absurd z (by decide), f26, n2.m (by decide), s2⟩
      rw [qP_readShares_5, if_neg (by decide)]
      by_cases eq : a = b
      · simp only [qP_readShares_34, jP_readShares_34, qP_readShares_77, jP_readShares_77, w0, w1, w2i, w2r, w3, w4, w5_0, w5_1, w5_2, w5_3, w5_4, w5_5, w5_6, w5_7, w5_8, w6_0, w6_1, w7_0, w7_1, w7_2, w7_3, w7_4, w7_5, w8_0, w8_1, w9_0, w9_1, w9_2, w10_0, w10_1, w10_2, w10_3, w10_4, w10_5, w11, w12_0, w12_1, w12_2, w12_3, w12_4, w12_5, w13_0, w13_1, w13_2, w13_3, w13_4, w13_5, w14, w15i, w15r, w16, w17, w18, w19i, w19z, w19l, w20, w21, w22, w23, w24, w25, w26, w27, w28_1, w28_2, w28_3, w28_4, w28_5, w28_6, w29, w30i, w30z, w31, w32, w33, w34, w35, w36, w37_1, w37_2, w37_3, w37_4, w37_5, w37_6, isO_O, set1_0, set1_1i, set1_1r, set1_1n, set1_1l, set1_s, set2_0, set2_1i, set2_1r, set2_1n, set2_1l, set2_s, ldv_i, ldv_l, ldv_r, ldv_s, ldi_i, ldi_s, fK_0, fK_s, gfc_O, fS_0, fS_s, uH_s, uH_n, uH_u, tl_s, tl_n, b1_0, b1_1, ite_true, ite_false, if_true, if_false, List.length_nil, List.length_cons, Nat.zero_le, Nat.zero_add, Nat.reduceAdd, Nat.reduceLeDiff, Nat.reduceLT, Nat.reduceEqDiff, Nat.reduceMul, Nat.add_left_cancel_iff, not_false_eq_true, i10, Bool.false_eq_true, z01, ne_eq, not_true_eq_false, not_false_eq_true, or_self, true_or, or_true, false_or, or_false, hc12, h15, h26, k1, dg_ne (show a < 256 by omega), d26, k2, f15, dg2, dg_ne (show b < 256 by omega), eab, eq, f26, P_fault f26]
      · have bb : bL T (pp a b) := BAD.elim (fun z => absurd z eq) id
        simp only [qP_readShares_34, jP_readShares_34, qP_readShares_77, jP_readShares_77, w0, w1, w2i, w2r, w3, w4, w5_0, w5_1, w5_2, w5_3, w5_4, w5_5, w5_6, w5_7, w5_8, w6_0, w6_1, w7_0, w7_1, w7_2, w7_3, w7_4, w7_5, w8_0, w8_1, w9_0, w9_1, w9_2, w10_0, w10_1, w10_2, w10_3, w10_4, w10_5, w11, w12_0, w12_1, w12_2, w12_3, w12_4, w12_5, w13_0, w13_1, w13_2, w13_3, w13_4, w13_5, w14, w15i, w15r, w16, w17, w18, w19i, w19z, w19l, w20, w21, w22, w23, w24, w25, w26, w27, w28_1, w28_2, w28_3, w28_4, w28_5, w28_6, w29, w30i, w30z, w31, w32, w33, w34, w35, w36, w37_1, w37_2, w37_3, w37_4, w37_5, w37_6, isO_O, set1_0, set1_1i, set1_1r, set1_1n, set1_1l, set1_s, set2_0, set2_1i, set2_1r, set2_1n, set2_1l, set2_s, ldv_i, ldv_l, ldv_r, ldv_s, ldi_i, ldi_s, fK_0, fK_s, gfc_O, fS_0, fS_s, uH_s, uH_n, uH_u, tl_s, tl_n, b1_0, b1_1, ite_true, ite_false, if_true, if_false, List.length_nil, List.length_cons, Nat.zero_le, Nat.zero_add, Nat.reduceAdd, Nat.reduceLeDiff, Nat.reduceLT, Nat.reduceEqDiff, Nat.reduceMul, Nat.add_left_cancel_iff, not_false_eq_true, i10, Bool.false_eq_true, z01, ne_eq, not_true_eq_false, not_false_eq_true, or_self, true_or, or_true, false_or, or_false, hc12, h15, h26, k1, dg_ne (show a < 256 by omega), d26, k2, f15, dg2, dg_ne (show b < 256 by omega), eab, eq, P_pairPlace, ppe, lg_cmp_eq, bt', bb, f26, P_fault f26]
    · have h39 := hm.1
      obtain ⟨g1, g2, k1, d39, k2, hm2, n2, s2⟩ := M2 g hm
      obtain ⟨f39, f45, f47⟩ := hm2
      obtain ⟨g3, e3, i39, n3, s3⟩ : ∃ q : AH, q = uH g2 39 (aO 5 [.int ho, .ref 40, .ref 41, .ref 42, .ref 43, .ref 44, .int pu, .int ye, .int bo, .ref 45, .int (nI l), .int (nI c2), .int 1, .ref 46, .ref 47, .ref 48, .ref 49, .ref 50, .long be, .int kn, .int pr, .ref 51, .ref 52, .ref 53, .ref 54, .ref 55, .ref 56, .int im, .ref 57, .ref 58, .ref 59, .ref 60]) ∧ q 39 = mO ho pu ye bo (nI l) (nI c2) 1 be kn pr im ∧ NS [39] g2 q ∧ (Sh g2 → Sh q) := ⟨_, rfl, uH_s _ _ _, NS.r.u (by decide), fun z => sh_39 (wr := 1) z⟩
      obtain ⟨g4, z4, k4, j39, n4, s4⟩ := muW (lo := 61) (hi := 61) i39
      obtain ⟨g5, z5, k5, l39, n5, s5⟩ := muW (lo := nI 48) (hi := 50) j39
      obtain ⟨g6, k6, m39, n6, s6⟩ := M_out (n := n) (y4 := some (.int (nI a))) (y5 := some (.int (nI b))) (y6 := some (.int 1)) (y7 := some (.int z5)) l39 hk
      refine ⟨g6, 0, fun Q => ?_, fun _ => m39, fun z => absurd rfl z, ((((n2.t n3).t n4).t n5).t n6).m (by decide), fun z => s6 (s5 (s4 (s3 (s2 z))))⟩
      rw [← k6 Q, qM_readPairs_4]
      by_cases eq : a = b
      · simp only [qM_readPairs_62, jM_readPairs_62, qM_readPairs_67, jM_readPairs_67, qM_readPairs_88, jM_readPairs_88, qM_readPairs_104, jM_readPairs_104, qM_readPairs_109, jM_readPairs_109, jM_readPairs_168, w0, w1, w2i, w2r, w3, w4, w5_0, w5_1, w5_2, w5_3, w5_4, w5_5, w5_6, w5_7, w5_8, w6_0, w6_1, w7_0, w7_1, w7_2, w7_3, w7_4, w7_5, w8_0, w8_1, w9_0, w9_1, w9_2, w10_0, w10_1, w10_2, w10_3, w10_4, w10_5, w11, w12_0, w12_1, w12_2, w12_3, w12_4, w12_5, w13_0, w13_1, w13_2, w13_3, w13_4, w13_5, w14, w15i, w15r, w16, w17, w18, w19i, w19z, w19l, w20, w21, w22, w23, w24, w25, w26, w27, w28_1, w28_2, w28_3, w28_4, w28_5, w28_6, w29, w30i, w30z, w31, w32, w33, w34, w35, w36, w37_1, w37_2, w37_3, w37_4, w37_5, w37_6, isO_O, set1_0, set1_1i, set1_1r, set1_1n, set1_1l, set1_s, set2_0, set2_1i, set2_1r, set2_1n, set2_1l, set2_s, ldv_i, ldv_l, ldv_r, ldv_s, ldi_i, ldi_s, fK_0, fK_s, gfc_O, fS_0, fS_s, uH_s, uH_n, uH_u, tl_s, tl_n, b1_0, b1_1, ite_true, ite_false, if_true, if_false, List.length_nil, List.length_cons, Nat.zero_le, Nat.zero_add, Nat.reduceAdd, Nat.reduceLeDiff, Nat.reduceLT, Nat.reduceEqDiff, Nat.reduceMul, Nat.add_left_cancel_iff, not_false_eq_true, i10, Bool.false_eq_true, z01, ne_eq, not_true_eq_false, not_false_eq_true, or_self, true_or, or_true, false_or, or_false, h39, e47, e48, k1, d39, k2, f39, eab, eq, pfc_O, nI_p1, ← e3, i39, k4, j39, k5, l39]
      · have bb : bL T (pp a b) := BAD.elim (fun z => absurd z eq) id
        have rneg : ¬ rs (8 * a + b) < 0 := by
          rcases hI.1 a b a8 b8 with ⟨q1, q2, q3⟩ | ⟨x, q1, q2, -⟩
          · exact absurd bb (q3 eq)
          · rw [q2, fa_lt, nI_toInt (by omega)]
            have : (0 : Int32).toInt = 0 := rfl
            omega
        simp only [qM_readPairs_62, jM_readPairs_62, qM_readPairs_67, jM_readPairs_67, qM_readPairs_88, jM_readPairs_88, qM_readPairs_104, jM_readPairs_104, qM_readPairs_109, jM_readPairs_109, jM_readPairs_168, w0, w1, w2i, w2r, w3, w4, w5_0, w5_1, w5_2, w5_3, w5_4, w5_5, w5_6, w5_7, w5_8, w6_0, w6_1, w7_0, w7_1, w7_2, w7_3, w7_4, w7_5, w8_0, w8_1, w9_0, w9_1, w9_2, w10_0, w10_1, w10_2, w10_3, w10_4, w10_5, w11, w12_0, w12_1, w12_2, w12_3, w12_4, w12_5, w13_0, w13_1, w13_2, w13_3, w13_4, w13_5, w14, w15i, w15r, w16, w17, w18, w19i, w19z, w19l, w20, w21, w22, w23, w24, w25, w26, w27, w28_1, w28_2, w28_3, w28_4, w28_5, w28_6, w29, w30i, w30z, w31, w32, w33, w34, w35, w36, w37_1, w37_2, w37_3, w37_4, w37_5, w37_6, isO_O, set1_0, set1_1i, set1_1r, set1_1n, set1_1l, set1_s, set2_0, set2_1i, set2_1r, set2_1n, set2_1l, set2_s, ldv_i, ldv_l, ldv_r, ldv_s, ldi_i, ldi_s, fK_0, fK_s, gfc_O, fS_0, fS_s, uH_s, uH_n, uH_u, tl_s, tl_n, b1_0, b1_1, ite_true, ite_false, if_true, if_false, List.length_nil, List.length_cons, Nat.zero_le, Nat.zero_add, Nat.reduceAdd, Nat.reduceLeDiff, Nat.reduceLT, Nat.reduceEqDiff, Nat.reduceMul, Nat.add_left_cancel_iff, not_false_eq_true, i10, Bool.false_eq_true, z01, ne_eq, not_true_eq_false, not_false_eq_true, or_self, true_or, or_true, false_or, or_false, h39, e47, e48, k1, d39, k2, f39, f47, eab, eq, n8a, r64, rneg, pfc_O, nI_p1, ← e3, i39, k4, j39, k5, l39]
  have ab : a ≠ b := fun z => BAD (Or.inl z)
  have nb : ¬ bL T (pp a b) := fun z => BAD (Or.inr z)
  have rneg : rs (8 * a + b) < 0 := by
    rcases hI.1 a b a8 b8 with ⟨q1, -, -⟩ | ⟨x, -, -, -, q3, -⟩
    · rw [q1]; decide
    · exact absurd q3 nb
  obtain ⟨c3, hc3⟩ : ∃ c, c = sk tb l (c2 + 1) := ⟨_, rfl⟩
  have lc3 := sk_le (tb := tb) c21
  rw [← hc3] at lc3
  obtain ⟨T', hT'⟩ : ∃ z : Int64, z = T ||| ((1 : Int64) <<< ((nI (pp a b)).toInt64 &&& 63)) := ⟨_, rfl⟩
  -- the class up to the third sign
  have C3 : ∀ h (x5 x6 x7 x8 : Option Value), HS l bt pu3 ye3 n p sh h → ∃ h2 h3 h4, (∀ Q, Wp none 17 qP_readShares_5 [some (.ref 26), some (.ref 15), some (.long T), none, some (.int (nI k)), x5, x6, x7, x8] [] h Q = Wp none 17 qP_readShares_82 [some (.ref 26), some (.ref 15), some (.long T), none, some (.int (nI k)), some (.int (nI a)), some (.int (nI b)), x7, x8] [] h2 Q) ∧ h2 26 = aO 2 [.ref 27, .int (nI l), .int (nI c2)] ∧ h3 = uH h2 26 (aO 2 [.ref 27, .int (nI l), .int (nI (c2 + 1))]) ∧ h3 26 = aO 2 [.ref 27, .int (nI l), .int (nI (c2 + 1))] ∧ (∀ Q, WpM 20 [.ref 26] h3 Q = Q (some (.int (sgC tb l c3))) h4) ∧ HS l bt pu3 ye3 n c3 sh h4 ∧ NS [26] h h4 ∧ (Sh h → Sh h4) := by
    intro h x5 x6 x7 x8 hc
    have h15 := hc.1
    have h26 := hc.2.2.1
    obtain ⟨h1, h2, k1, d26, d15, k2, hc2', n2, s2⟩ := C2 h hc
    obtain ⟨f15, f20, f26, f27⟩ := hc2'
    obtain ⟨h3, e3, i26, n3, s3⟩ := incE f26
    obtain ⟨h4, k4, j26, n4, s4⟩ := nsE hT hbt c21 i26 ((n3 27 (by decide)).trans f27)
    rw [← hc3] at k4 j26
    have n34 := n3.t n4
    refine ⟨h2, h3, h4, fun Q => ?_, f26, e3, i26, k4, ⟨(n34 15 (by decide)).trans f15, (n34 20 (by decide)).trans f20, j26, (n34 27 (by decide)).trans f27⟩, n2.t n34, fun z => s4 (s3 (s2 z))⟩
    conv => lhs; rw [qP_readShares_5]
    simp only [qP_readShares_34, jP_readShares_34, jP_readShares_82, w0, w1, w2i, w2r, w3, w4, w5_0, w5_1, w5_2, w5_3, w5_4, w5_5, w5_6, w5_7, w5_8, w6_0, w6_1, w7_0, w7_1, w7_2, w7_3, w7_4, w7_5, w8_0, w8_1, w9_0, w9_1, w9_2, w10_0, w10_1, w10_2, w10_3, w10_4, w10_5, w11, w12_0, w12_1, w12_2, w12_3, w12_4, w12_5, w13_0, w13_1, w13_2, w13_3, w13_4, w13_5, w14, w15i, w15r, w16, w17, w18, w19i, w19z, w19l, w20, w21, w22, w23, w24, w25, w26, w27, w28_1, w28_2, w28_3, w28_4, w28_5, w28_6, w29, w30i, w30z, w31, w32, w33, w34, w35, w36, w37_1, w37_2, w37_3, w37_4, w37_5, w37_6, isO_O, set1_0, set1_1i, set1_1r, set1_1n, set1_1l, set1_s, set2_0, set2_1i, set2_1r, set2_1n, set2_1l, set2_s, ldv_i, ldv_l, ldv_r, ldv_s, ldi_i, ldi_s, fK_0, fK_s, gfc_O, fS_0, fS_s, uH_s, uH_n, uH_u, tl_s, tl_n, b1_0, b1_1, ite_true, ite_false, if_true, if_false, List.length_nil, List.length_cons, Nat.zero_le, Nat.zero_add, Nat.reduceAdd, Nat.reduceLeDiff, Nat.reduceLT, Nat.reduceEqDiff, Nat.reduceMul, Nat.add_left_cancel_iff, not_false_eq_true, i10, Bool.false_eq_true, z01, ne_eq, not_true_eq_false, not_false_eq_true, or_self, true_or, or_true, false_or, or_false, hc12, h15, h26, k1, dg_ne (show a < 256 by omega), d26, k2, f15, dg2, dg_ne (show b < 256 by omega), eab, ab, P_pairPlace, ppe, lg_cmp_eq, bt', nb]
  -- the reference up to the equals sign
  have M3 : ∀ g (y4 y5 y6 y7 : Option Value), HT l tp ho pu ye bo be kn pr im p rs g → ∃ g2, (∀ Q, Wp none 109 qM_readPairs_4 [some (.ref 39), some (.int (nI n)), some (.int (nI k)), some (.int 1), y4, y5, y6, y7] [] g Q = Wp none 109 qM_readPairs_109 [some (.ref 39), some (.int (nI n)), some (.int (nI k)), some (.int 1), some (.int (nI a)), some (.int (nI b)), some (.int 0), y7] [.int 0, .ref 39] g2 Q) ∧ HT l tp ho pu ye bo be kn pr im (c2 + 1) rs g2 ∧ NS [39] g g2 ∧ (Sh g → Sh g2) := by
    intro g y4 y5 y6 y7 hm
    have h39 := hm.1
    obtain ⟨g1, g2, k1, d39, k2, hm2, n2, s2⟩ := M2 g hm
    obtain ⟨f39, f45, f47⟩ := id hm2
    have idW : uH g2 39 (aO 5 [.int ho, .ref 40, .ref 41, .ref 42, .ref 43, .ref 44, .int pu, .int ye, .int bo, .ref 45, .int (nI l), .int (nI (c2 + 1)), .int 0, .ref 46, .ref 47, .ref 48, .ref 49, .ref 50, .long be, .int kn, .int pr, .ref 51, .ref 52, .ref 53, .ref 54, .ref 55, .ref 56, .int im, .ref 57, .ref 58, .ref 59, .ref 60]) = g2 := uH_id g2 f39
    refine ⟨g2, fun Q => ?_, hm2, n2, s2⟩
    conv => lhs; rw [qM_readPairs_4]
    simp only [qM_readPairs_66, jM_readPairs_66, qM_readPairs_67, jM_readPairs_67, qM_readPairs_84, jM_readPairs_84, qM_readPairs_88, jM_readPairs_88, qM_readPairs_108, jM_readPairs_108, jM_readPairs_109, w0, w1, w2i, w2r, w3, w4, w5_0, w5_1, w5_2, w5_3, w5_4, w5_5, w5_6, w5_7, w5_8, w6_0, w6_1, w7_0, w7_1, w7_2, w7_3, w7_4, w7_5, w8_0, w8_1, w9_0, w9_1, w9_2, w10_0, w10_1, w10_2, w10_3, w10_4, w10_5, w11, w12_0, w12_1, w12_2, w12_3, w12_4, w12_5, w13_0, w13_1, w13_2, w13_3, w13_4, w13_5, w14, w15i, w15r, w16, w17, w18, w19i, w19z, w19l, w20, w21, w22, w23, w24, w25, w26, w27, w28_1, w28_2, w28_3, w28_4, w28_5, w28_6, w29, w30i, w30z, w31, w32, w33, w34, w35, w36, w37_1, w37_2, w37_3, w37_4, w37_5, w37_6, isO_O, set1_0, set1_1i, set1_1r, set1_1n, set1_1l, set1_s, set2_0, set2_1i, set2_1r, set2_1n, set2_1l, set2_s, ldv_i, ldv_l, ldv_r, ldv_s, ldi_i, ldi_s, fK_0, fK_s, gfc_O, fS_0, fS_s, uH_s, uH_n, uH_u, tl_s, tl_n, b1_0, b1_1, ite_true, ite_false, if_true, if_false, List.length_nil, List.length_cons, Nat.zero_le, Nat.zero_add, Nat.reduceAdd, Nat.reduceLeDiff, Nat.reduceLT, Nat.reduceEqDiff, Nat.reduceMul, Nat.add_left_cancel_iff, not_false_eq_true, i10, Bool.false_eq_true, z01, ne_eq, not_true_eq_false, not_false_eq_true, or_self, true_or, or_true, false_or, or_false, h39, e47, e48, k1, d39, k2, f39, f47, eab, ab, n8a, r64, rneg, pfc_O, idW]
  have idZ : ∀ (g : AH) (c : Nat), g 39 = mO ho pu ye bo (nI l) (nI c) 0 be kn pr im → uH g 39 (aO 5 [.int ho, .ref 40, .ref 41, .ref 42, .ref 43, .ref 44, .int pu, .int ye, .int bo, .ref 45, .int (nI l), .int (nI c), .int 0, .ref 46, .ref 47, .ref 48, .ref 49, .ref 50, .long be, .int kn, .int pr, .ref 51, .ref 52, .ref 53, .ref 54, .ref 55, .ref 56, .int im, .ref 57, .ref 58, .ref 59, .ref 60]) = g := fun g c hg => uH_id g hg
  by_cases E3 : c3 < l ∧ tb c3 = 61
  rotate_left
  · refine ⟨1, c3, T, sh, rs, lc3.2, fun z => absurd z (by decide), fun z => absurd z (by decide), by decide, fun h x5 x6 x7 x8 hc => ?_, fun g y4 y5 y6 y7 hm => ?_⟩
    · obtain ⟨h2, h3, h4, k1, f26, e3, i26, k4, hc4, n4, s4⟩ := C3 h x5 x6 x7 x8 hc
      have j26 := hc4.2.2.1
      have n61' : ¬ sgC tb l c3 = 61 := by
        unfold sgC
        by_cases z : c3 < l
        · have := hT.2 c3 z
          rw [if_pos z, n61 (by omega)]; exact fun y => E3 ⟨z, y⟩
        · rw [if_neg z]; decide
      refine ⟨h4, fun Q => ?_, fun z => absurd z (by decide), j26, n4.m (by decide), s4⟩
      rw [k1 Q, qP_readShares_82, if_neg (by decide)]
      simp only [w0, w1, w2i, w2r, w3, w4, w5_0, w5_1, w5_2, w5_3, w5_4, w5_5, w5_6, w5_7, w5_8, w6_0, w6_1, w7_0, w7_1, w7_2, w7_3, w7_4, w7_5, w8_0, w8_1, w9_0, w9_1, w9_2, w10_0, w10_1, w10_2, w10_3, w10_4, w10_5, w11, w12_0, w12_1, w12_2, w12_3, w12_4, w12_5, w13_0, w13_1, w13_2, w13_3, w13_4, w13_5, w14, w15i, w15r, w16, w17, w18, w19i, w19z, w19l, w20, w21, w22, w23, w24, w25, w26, w27, w28_1, w28_2, w28_3, w28_4, w28_5, w28_6, w29, w30i, w30z, w31, w32, w33, w34, w35, w36, w37_1, w37_2, w37_3, w37_4, w37_5, w37_6, isO_O, set1_0, set1_1i, set1_1r, set1_1n, set1_1l, set1_s, set2_0, set2_1i, set2_1r, set2_1n, set2_1l, set2_s, ldv_i, ldv_l, ldv_r, ldv_s, ldi_i, ldi_s, fK_0, fK_s, gfc_O, fS_0, fS_s, uH_s, uH_n, uH_u, tl_s, tl_n, b1_0, b1_1, ite_true, ite_false, if_true, if_false, List.length_nil, List.length_cons, Nat.zero_le, Nat.zero_add, Nat.reduceAdd, Nat.reduceLeDiff, Nat.reduceLT, Nat.reduceEqDiff, Nat.reduceMul, Nat.add_left_cancel_iff, not_false_eq_true, i10, Bool.false_eq_true, z01, ne_eq, not_true_eq_false, not_false_eq_true, or_self, true_or, or_true, false_or, or_false, P_pairPlace, ppe, f26, pfc_2, nI_1, ← e3, i26, k4, n61', j26, P_fault j26]
    · obtain ⟨g2, k2, hm2, n2, s2⟩ := M3 g y4 y5 y6 y7 hm
      obtain ⟨f39, f45, f47⟩ := hm2
      obtain ⟨g3, z3, k3, i39, n3, s3⟩ := muE0 (lo := 61) (hi := 61) hT htp (by omega) c21 f39 f45 (fun z => E3 (by rw [hc3]; exact ⟨z.1, by omega⟩))
      rw [← hc3] at i39
      rw [show nI 61 = 61 from rfl] at k3
      obtain ⟨g5, z5, k5, l39, n5, s5⟩ := muW (lo := nI 48) (hi := 50) i39
      obtain ⟨g6, k6, m39, n6, s6⟩ := M_out (n := n) (y4 := some (.int (nI a))) (y5 := some (.int (nI b))) (y6 := some (.int 0)) (y7 := some (.int z5)) l39 hk
      refine ⟨g6, 0, fun Q => ?_, fun _ => m39, fun z => absurd rfl z, (((n2.t n3).t n5).t n6).m (by decide), fun z => s6 (s5 (s3 (s2 z)))⟩
      rw [← k6 Q, k2 Q, qM_readPairs_109]
      simp only [jM_readPairs_168, w0, w1, w2i, w2r, w3, w4, w5_0, w5_1, w5_2, w5_3, w5_4, w5_5, w5_6, w5_7, w5_8, w6_0, w6_1, w7_0, w7_1, w7_2, w7_3, w7_4, w7_5, w8_0, w8_1, w9_0, w9_1, w9_2, w10_0, w10_1, w10_2, w10_3, w10_4, w10_5, w11, w12_0, w12_1, w12_2, w12_3, w12_4, w12_5, w13_0, w13_1, w13_2, w13_3, w13_4, w13_5, w14, w15i, w15r, w16, w17, w18, w19i, w19z, w19l, w20, w21, w22, w23, w24, w25, w26, w27, w28_1, w28_2, w28_3, w28_4, w28_5, w28_6, w29, w30i, w30z, w31, w32, w33, w34, w35, w36, w37_1, w37_2, w37_3, w37_4, w37_5, w37_6, isO_O, set1_0, set1_1i, set1_1r, set1_1n, set1_1l, set1_s, set2_0, set2_1i, set2_1r, set2_1n, set2_1l, set2_s, ldv_i, ldv_l, ldv_r, ldv_s, ldi_i, ldi_s, fK_0, fK_s, gfc_O, fS_0, fS_s, uH_s, uH_n, uH_u, tl_s, tl_n, b1_0, b1_1, ite_true, ite_false, if_true, if_false, List.length_nil, List.length_cons, Nat.zero_le, Nat.zero_add, Nat.reduceAdd, Nat.reduceLeDiff, Nat.reduceLT, Nat.reduceEqDiff, Nat.reduceMul, Nat.add_left_cancel_iff, not_false_eq_true, i10, Bool.false_eq_true, z01, ne_eq, not_true_eq_false, not_false_eq_true, or_self, true_or, or_true, false_or, or_false, f39, pfc_O, idZ g2 (c2 + 1) f39, k3, i39, e48, k5, l39]
  have c31 : c3 + 1 ≤ l := by have := E3.1; omega
  obtain ⟨c4, hc4⟩ : ∃ c, c = sk tb l (c3 + 1) := ⟨_, rfl⟩
  have lc4 := sk_le (tb := tb) c31
  rw [← hc4] at lc4
  have sg3 : sgC tb l c3 = 61 := by unfold sgC; rw [if_pos E3.1, E3.2]; rfl
  have m3 : ∀ g2, HT l tp ho pu ye bo be kn pr im (c2 + 1) rs g2 → ∃ g3, (∀ Q, WpM 105 [.ref 39, .int 61, .int 61] g2 Q = Q (some (.int (nI (tb c3 - 61)))) g3) ∧ HT l tp ho pu ye bo be kn pr im (c3 + 1) rs g3 ∧ NS [39] g2 g3 ∧ (Sh g2 → Sh g3) := by
    intro g2 hm2
    obtain ⟨f39, f45, f47⟩ := hm2
    obtain ⟨g3, k3, i39, n3, s3⟩ := muE (lo := 61) (hi := 61) hT htp (by omega) c21 f39 f45 (by rw [← hc3]; exact ⟨E3.1, by have := E3.2; omega, by have := E3.2; omega⟩)
    rw [← hc3] at i39 k3
    rw [show nI 61 = 61 from rfl] at k3
    exact ⟨g3, k3, ⟨i39, (n3 45 (by decide)).trans f45, (n3 47 (by decide)).trans f47⟩, n3, s3⟩
  by_cases D4 : isD tb l 3 c4
  rotate_left
  · refine ⟨1, c4, T, sh, rs, lc4.2, fun z => absurd z (by decide), fun z => absurd z (by decide), by decide, fun h x5 x6 x7 x8 hc => ?_, fun g y4 y5 y6 y7 hm => ?_⟩
    · obtain ⟨h2, h3, h4, k1, f26, e3, i26, k4, hc4', n4, s4⟩ := C3 h x5 x6 x7 x8 hc
      obtain ⟨j15, j20, j26, j27⟩ := hc4'
      obtain ⟨h5, e5, l26, n5, s5⟩ := incE j26
      rw [hc4] at D4
      obtain ⟨h6, k6, m26, n6, s6⟩ := rdE0 hT hbt (by decide) c31 l26 ((n5 27 (by decide)).trans j27) D4
      rw [← hc4] at m26
      rw [show nI 3 = 3 from rfl] at k6
      refine ⟨h6, fun Q => ?_, fun z => absurd z (by decide), m26, ((n4.t n5).t n6).m (by decide), fun z => s6 (s5 (s4 z))⟩
      rw [k1 Q, qP_readShares_82, if_neg (by decide)]
      simp only [qP_readShares_118, jP_readShares_118, w0, w1, w2i, w2r, w3, w4, w5_0, w5_1, w5_2, w5_3, w5_4, w5_5, w5_6, w5_7, w5_8, w6_0, w6_1, w7_0, w7_1, w7_2, w7_3, w7_4, w7_5, w8_0, w8_1, w9_0, w9_1, w9_2, w10_0, w10_1, w10_2, w10_3, w10_4, w10_5, w11, w12_0, w12_1, w12_2, w12_3, w12_4, w12_5, w13_0, w13_1, w13_2, w13_3, w13_4, w13_5, w14, w15i, w15r, w16, w17, w18, w19i, w19z, w19l, w20, w21, w22, w23, w24, w25, w26, w27, w28_1, w28_2, w28_3, w28_4, w28_5, w28_6, w29, w30i, w30z, w31, w32, w33, w34, w35, w36, w37_1, w37_2, w37_3, w37_4, w37_5, w37_6, isO_O, set1_0, set1_1i, set1_1r, set1_1n, set1_1l, set1_s, set2_0, set2_1i, set2_1r, set2_1n, set2_1l, set2_s, ldv_i, ldv_l, ldv_r, ldv_s, ldi_i, ldi_s, fK_0, fK_s, gfc_O, fS_0, fS_s, uH_s, uH_n, uH_u, tl_s, tl_n, b1_0, b1_1, ite_true, ite_false, if_true, if_false, List.length_nil, List.length_cons, Nat.zero_le, Nat.zero_add, Nat.reduceAdd, Nat.reduceLeDiff, Nat.reduceLT, Nat.reduceEqDiff, Nat.reduceMul, Nat.add_left_cancel_iff, not_false_eq_true, i10, Bool.false_eq_true, z01, ne_eq, not_true_eq_false, not_false_eq_true, or_self, true_or, or_true, false_or, or_false, P_pairPlace, ppe, f26, pfc_2, nI_1, ← e3, i26, k4, sg3, j26, ← e5, l26, k6, i44, m26, P_fault m26]
    · obtain ⟨g2, k2, hm2, n2, s2⟩ := M3 g y4 y5 y6 y7 hm
      have f39 := hm2.1
      obtain ⟨g3, k3, hm3, n3, s3⟩ := m3 g2 hm2
      obtain ⟨i39, i45, i47⟩ := hm3
      obtain ⟨g5, z5, k5, l39, n5, s5⟩ := muE0 (lo := 48) (hi := 50) hT htp (by omega) c31 i39 i45 (fun z => D4 (by rw [hc4]; exact ⟨z.1, z.2.1, by omega⟩))
      rw [← hc4] at l39
      rw [show nI 50 = 50 from rfl] at k5
      obtain ⟨g6, k6, m39, n6, s6⟩ := M_out (n := n) (y4 := some (.int (nI a))) (y5 := some (.int (nI b))) (y6 := some (.int 0)) (y7 := some (.int z5)) l39 hk
      refine ⟨g6, 0, fun Q => ?_, fun _ => m39, fun z => absurd rfl z, (((n2.t n3).t n5).t n6).m (by decide), fun z => s6 (s5 (s3 (s2 z)))⟩
      rw [← k6 Q, k2 Q, qM_readPairs_109]
      simp only [jM_readPairs_168, w0, w1, w2i, w2r, w3, w4, w5_0, w5_1, w5_2, w5_3, w5_4, w5_5, w5_6, w5_7, w5_8, w6_0, w6_1, w7_0, w7_1, w7_2, w7_3, w7_4, w7_5, w8_0, w8_1, w9_0, w9_1, w9_2, w10_0, w10_1, w10_2, w10_3, w10_4, w10_5, w11, w12_0, w12_1, w12_2, w12_3, w12_4, w12_5, w13_0, w13_1, w13_2, w13_3, w13_4, w13_5, w14, w15i, w15r, w16, w17, w18, w19i, w19z, w19l, w20, w21, w22, w23, w24, w25, w26, w27, w28_1, w28_2, w28_3, w28_4, w28_5, w28_6, w29, w30i, w30z, w31, w32, w33, w34, w35, w36, w37_1, w37_2, w37_3, w37_4, w37_5, w37_6, isO_O, set1_0, set1_1i, set1_1r, set1_1n, set1_1l, set1_s, set2_0, set2_1i, set2_1r, set2_1n, set2_1l, set2_s, ldv_i, ldv_l, ldv_r, ldv_s, ldi_i, ldi_s, fK_0, fK_s, gfc_O, fS_0, fS_s, uH_s, uH_n, uH_u, tl_s, tl_n, b1_0, b1_1, ite_true, ite_false, if_true, if_false, List.length_nil, List.length_cons, Nat.zero_le, Nat.zero_add, Nat.reduceAdd, Nat.reduceLeDiff, Nat.reduceLT, Nat.reduceEqDiff, Nat.reduceMul, Nat.add_left_cancel_iff, not_false_eq_true, i10, Bool.false_eq_true, z01, ne_eq, not_true_eq_false, not_false_eq_true, or_self, true_or, or_true, false_or, or_false, f39, pfc_O, idZ g2 (c2 + 1) f39, k3, i39, e48, k5, l39]
  have tc4 := hT.2 _ D4.1
  obtain ⟨v, hv⟩ : ∃ v, v = tb c4 - 48 := ⟨_, rfl⟩
  have v2 : v ≤ 2 := by have := D4.2; omega
  have c41 : c4 + 1 ≤ l := by have := D4.1; omega
  obtain ⟨c5, hc5⟩ : ∃ c, c = sk tb l (c4 + 1) := ⟨_, rfl⟩
  have lc5 := sk_le (tb := tb) c41
  rw [← hc5] at lc5
  have hI' : IV n T' (ps sh a b (nI v)) (ps rs a b (nI v)) := by rw [hT']; exact IV_step hI hn.2 an bn ab v2
  -- the class up to the last sign
  have C5 : ∀ h (x5 x6 x7 x8 : Option Value), HS l bt pu3 ye3 n p sh h → ∃ h8, (∀ Q, Wp none 17 qP_readShares_5 [some (.ref 26), some (.ref 15), some (.long T), none, some (.int (nI k)), x5, x6, x7, x8] [] h Q = (if ¬ sgC tb l c5 = -1 then (if ¬ sgC tb l c5 = 44 then Q (some (.int (-20 - nI c5))) h8 else if ¬ k = 11 then Wp none 17 qP_readShares_5 [some (.ref 26), some (.ref 15), some (.long T'), none, some (.int (nI (k + 1))), some (.int (nI a)), some (.int (nI b)), some (.int (nI v)), some (.int (sgC tb l c5))] [] (uH h8 26 (aO 2 [.ref 27, .int (nI l), .int (nI (c5 + 1))])) Q else Q (some (.int (-20 - nI c5))) h8) else Q (some (.int 0)) h8)) ∧ HS l bt pu3 ye3 n c5 (ps sh a b (nI v)) h8 ∧ NS [20, 26] h h8 ∧ (Sh h → Sh h8) := by
    intro h x5 x6 x7 x8 hc
    obtain ⟨h2, h3, h4, k1, f26, e3, i26, k4, hc4', n4, s4⟩ := C3 h x5 x6 x7 x8 hc
    obtain ⟨j15, j20, j26, j27⟩ := hc4'
    obtain ⟨h5, e5, l26, n5, s5⟩ := incE j26
    rw [hc4] at D4
    obtain ⟨h6, k6, m26, n6, s6⟩ := rdE hT hbt (by decide) c31 l26 ((n5 27 (by decide)).trans j27) D4
    rw [← hc4] at m26 k6
    rw [← hv, show nI 3 = 3 from rfl] at k6
    have n56 := n5.t n6
    have m15 := (n56 15 (by decide)).trans j15
    obtain ⟨h7, k7, o20, n7, s7⟩ := psE (v := nI v) m15 ((n56 20 (by decide)).trans j20) a8 b8
    have o26 := (n7 26 (by decide)).trans m26
    have o27 := (n7 27 (by decide)).trans ((n56 27 (by decide)).trans j27)
    obtain ⟨h8, k8, r26, n8, s8⟩ := nsE hT hbt c41 o26 o27
    rw [← hc5] at k8 r26
    have e11 : (nI k = 11) = (k = 11) := propext (nI_eq (b := 11) (by omega) (by decide))
    refine ⟨h8, fun Q => ?_, ⟨(n8 15 (by decide)).trans ((n7 15 (by decide)).trans m15), (n8 20 (by decide)).trans o20, r26, (n8 27 (by decide)).trans o27⟩, (((n4.m (by decide)).t (n56.m (by decide))).t (n7.m (by decide))).t (n8.m (by decide)), fun z => s8 (s7 (s6 (s5 (s4 z))))⟩
    rw [k1 Q, qP_readShares_82]
    simp only [qP_readShares_118, jP_readShares_118, qP_readShares_147, jP_readShares_147, qP_readShares_171, jP_readShares_171, qP_readShares_185, jP_readShares_185, qP_readShares_190, jP_readShares_190, jP_readShares_5, w0, w1, w2i, w2r, w3, w4, w5_0, w5_1, w5_2, w5_3, w5_4, w5_5, w5_6, w5_7, w5_8, w6_0, w6_1, w7_0, w7_1, w7_2, w7_3, w7_4, w7_5, w8_0, w8_1, w9_0, w9_1, w9_2, w10_0, w10_1, w10_2, w10_3, w10_4, w10_5, w11, w12_0, w12_1, w12_2, w12_3, w12_4, w12_5, w13_0, w13_1, w13_2, w13_3, w13_4, w13_5, w14, w15i, w15r, w16, w17, w18, w19i, w19z, w19l, w20, w21, w22, w23, w24, w25, w26, w27, w28_1, w28_2, w28_3, w28_4, w28_5, w28_6, w29, w30i, w30z, w31, w32, w33, w34, w35, w36, w37_1, w37_2, w37_3, w37_4, w37_5, w37_6, isO_O, set1_0, set1_1i, set1_1r, set1_1n, set1_1l, set1_s, set2_0, set2_1i, set2_1r, set2_1n, set2_1l, set2_s, ldv_i, ldv_l, ldv_r, ldv_s, ldi_i, ldi_s, fK_0, fK_s, gfc_O, fS_0, fS_s, uH_s, uH_n, uH_u, tl_s, tl_n, b1_0, b1_1, ite_true, ite_false, if_true, if_false, List.length_nil, List.length_cons, Nat.zero_le, Nat.zero_add, Nat.reduceAdd, Nat.reduceLeDiff, Nat.reduceLT, Nat.reduceEqDiff, Nat.reduceMul, Nat.add_left_cancel_iff, not_false_eq_true, i10, Bool.false_eq_true, z01, ne_eq, not_true_eq_false, not_false_eq_true, or_self, true_or, or_true, false_or, or_false, P_pairPlace, ppe, f26, pfc_2, nI_1, ← e3, i26, k4, sg3, j26, ← e5, l26, k6, dg_ne (show v < 256 by omega), m15, k7, o26, k8, e11, r26, P_fault r26, ← hT']
  have M5 : ∀ g (y4 y5 y6 y7 : Option Value), HT l tp ho pu ye bo be kn pr im p rs g → ∃ g4, (∀ Q, Wp none 109 qM_readPairs_4 [some (.ref 39), some (.int (nI n)), some (.int (nI k)), some (.int 1), y4, y5, y6, y7] [] g Q = Wp none 109 qM_readPairs_168 [some (.ref 39), some (.int (nI n)), some (.int (nI k)), some (.int 1), some (.int (nI a)), some (.int (nI b)), some (.int 0), some (.int (nI v))] [] g4 Q) ∧ HT l tp ho pu ye bo be kn pr im (c4 + 1) (ps rs a b (nI v)) g4 ∧ NS [39, 47] g g4 ∧ (Sh g → Sh g4) := by
    intro g y4 y5 y6 y7 hm
    obtain ⟨g2, k2, hm2, n2, s2⟩ := M3 g y4 y5 y6 y7 hm
    have f39 := hm2.1
    obtain ⟨g3, k3, hm3, n3, s3⟩ := m3 g2 hm2
    obtain ⟨i39, i45, i47⟩ := hm3
    obtain ⟨g5, k5, l39, n5, s5⟩ := muE (lo := 48) (hi := 50) hT htp (by omega) c31 i39 i45 (by rw [← hc4]; exact ⟨D4.1, D4.2.1, by have := D4.2.2; omega⟩)
    rw [← hc4] at l39 k5
    rw [← hv, show nI 50 = 50 from rfl] at k5
    have l47 := (n5 47 (by decide)).trans i47
    refine ⟨uH g5 47 (aI 64 (ps rs a b (nI v))), fun Q => ?_, ⟨by rw [uH_n _ _ (by decide)]; exact l39, by rw [uH_n _ _ (by decide)]; exact (n5 45 (by decide)).trans i45, uH_s _ _ _⟩, (((n2.m (by decide)).t (n3.m (by decide))).t (n5.m (by decide))).t (NS.r.u (by decide)), fun z => sh_47 (s5 (s3 (s2 z)))⟩
    rw [k2 Q, qM_readPairs_109]
    simp only [jM_readPairs_168, w0, w1, w2i, w2r, w3, w4, w5_0, w5_1, w5_2, w5_3, w5_4, w5_5, w5_6, w5_7, w5_8, w6_0, w6_1, w7_0, w7_1, w7_2, w7_3, w7_4, w7_5, w8_0, w8_1, w9_0, w9_1, w9_2, w10_0, w10_1, w10_2, w10_3, w10_4, w10_5, w11, w12_0, w12_1, w12_2, w12_3, w12_4, w12_5, w13_0, w13_1, w13_2, w13_3, w13_4, w13_5, w14, w15i, w15r, w16, w17, w18, w19i, w19z, w19l, w20, w21, w22, w23, w24, w25, w26, w27, w28_1, w28_2, w28_3, w28_4, w28_5, w28_6, w29, w30i, w30z, w31, w32, w33, w34, w35, w36, w37_1, w37_2, w37_3, w37_4, w37_5, w37_6, isO_O, set1_0, set1_1i, set1_1r, set1_1n, set1_1l, set1_s, set2_0, set2_1i, set2_1r, set2_1n, set2_1l, set2_s, ldv_i, ldv_l, ldv_r, ldv_s, ldi_i, ldi_s, fK_0, fK_s, gfc_O, fS_0, fS_s, uH_s, uH_n, uH_u, tl_s, tl_n, b1_0, b1_1, ite_true, ite_false, if_true, if_false, List.length_nil, List.length_cons, Nat.zero_le, Nat.zero_add, Nat.reduceAdd, Nat.reduceLeDiff, Nat.reduceLT, Nat.reduceEqDiff, Nat.reduceMul, Nat.add_left_cancel_iff, not_false_eq_true, i10, Bool.false_eq_true, z01, ne_eq, not_true_eq_false, not_false_eq_true, or_self, true_or, or_true, false_or, or_false, f39, pfc_O, idZ g2 (c2 + 1) f39, k3, i39, e48, k5, l39, l47, n8a, wIc_n (show 8 * a + b < 64 by omega) (show 64 < 2 ^ 31 by decide), wIc_n (show 8 * b + a < 64 by omega) (show 64 < 2 ^ 31 by decide)]
    rfl
  -- the reference's exit where no comma goes on
  have MX : ¬ (k + 1 < 12 ∧ c5 < l ∧ tb c5 = 44) → ∀ (g : AH) (y4 y5 y6 y7 : Option Value), HT l tp ho pu ye bo be kn pr im p rs g → ∃ (g' : AH) (pm : Nat), (∀ Q, Wp none 109 qM_readPairs_4 [some (.ref 39), some (.int (nI n)), some (.int (nI k)), some (.int 1), y4, y5, y6, y7] [] g Q = Q none g') ∧ pm ≤ l ∧ sk tb l pm = c5 ∧ HT l tp ho pu ye bo be kn pr im pm (ps rs a b (nI v)) g' ∧ NS [39, 47] g g' ∧ (Sh g → Sh g') := by
    intro hx g y4 y5 y6 y7 hm
    obtain ⟨g4, k4, hm4, n4, s4⟩ := M5 g y4 y5 y6 y7 hm
    have j39 := hm4.1
    by_cases n8 : k + 1 < 12
    · have c8 : ¬ (12 : Int32) ≤ nI (k + 1) := nI_ge (b := 12) n8 (by decide)
      obtain ⟨g5, k5, l39, n5, s5⟩ := haE0 (c := 44) hT htp (by decide) c41 j39 hm4.2.1 (fun z => hx ⟨n8, by rw [hc5]; exact z⟩)
      rw [show nI 44 = 44 from rfl] at k5
      rw [← hc5] at l39
      refine ⟨g5, c5, fun Q => ?_, lc5.2, by rw [hc5]; exact sk_id c41, ⟨l39, (n5 45 (by decide)).trans hm4.2.1, (n5 47 (by decide)).trans hm4.2.2⟩, n4.t (n5.m (by decide)), fun z => s5 (s4 z)⟩
      rw [k4 Q, qM_readPairs_168]
      simp only [qM_readPairs_190, jM_readPairs_190, qM_readPairs_191, jM_readPairs_191, jM_readPairs_4, w0, w1, w2i, w2r, w3, w4, w5_0, w5_1, w5_2, w5_3, w5_4, w5_5, w5_6, w5_7, w5_8, w6_0, w6_1, w7_0, w7_1, w7_2, w7_3, w7_4, w7_5, w8_0, w8_1, w9_0, w9_1, w9_2, w10_0, w10_1, w10_2, w10_3, w10_4, w10_5, w11, w12_0, w12_1, w12_2, w12_3, w12_4, w12_5, w13_0, w13_1, w13_2, w13_3, w13_4, w13_5, w14, w15i, w15r, w16, w17, w18, w19i, w19z, w19l, w20, w21, w22, w23, w24, w25, w26, w27, w28_1, w28_2, w28_3, w28_4, w28_5, w28_6, w29, w30i, w30z, w31, w32, w33, w34, w35, w36, w37_1, w37_2, w37_3, w37_4, w37_5, w37_6, isO_O, set1_0, set1_1i, set1_1r, set1_1n, set1_1l, set1_s, set2_0, set2_1i, set2_1r, set2_1n, set2_1l, set2_s, ldv_i, ldv_l, ldv_r, ldv_s, ldi_i, ldi_s, fK_0, fK_s, gfc_O, fS_0, fS_s, uH_s, uH_n, uH_u, tl_s, tl_n, b1_0, b1_1, ite_true, ite_false, if_true, if_false, List.length_nil, List.length_cons, Nat.zero_le, Nat.zero_add, Nat.reduceAdd, Nat.reduceLeDiff, Nat.reduceLT, Nat.reduceEqDiff, Nat.reduceMul, Nat.add_left_cancel_iff, not_false_eq_true, i10, Bool.false_eq_true, z01, ne_eq, not_true_eq_false, not_false_eq_true, or_self, true_or, or_true, false_or, or_false, nI_1, c8, j39, k5]
      rw [qM_readPairs_4]
      simp only [qM_readPairs_195, jM_readPairs_195, w0, w1, w2i, w2r, w3, w4, w5_0, w5_1, w5_2, w5_3, w5_4, w5_5, w5_6, w5_7, w5_8, w6_0, w6_1, w7_0, w7_1, w7_2, w7_3, w7_4, w7_5, w8_0, w8_1, w9_0, w9_1, w9_2, w10_0, w10_1, w10_2, w10_3, w10_4, w10_5, w11, w12_0, w12_1, w12_2, w12_3, w12_4, w12_5, w13_0, w13_1, w13_2, w13_3, w13_4, w13_5, w14, w15i, w15r, w16, w17, w18, w19i, w19z, w19l, w20, w21, w22, w23, w24, w25, w26, w27, w28_1, w28_2, w28_3, w28_4, w28_5, w28_6, w29, w30i, w30z, w31, w32, w33, w34, w35, w36, w37_1, w37_2, w37_3, w37_4, w37_5, w37_6, isO_O, set1_0, set1_1i, set1_1r, set1_1n, set1_1l, set1_s, set2_0, set2_1i, set2_1r, set2_1n, set2_1l, set2_s, ldv_i, ldv_l, ldv_r, ldv_s, ldi_i, ldi_s, fK_0, fK_s, gfc_O, fS_0, fS_s, uH_s, uH_n, uH_u, tl_s, tl_n, b1_0, b1_1, ite_true, ite_false, if_true, if_false, List.length_nil, List.length_cons, Nat.zero_le, Nat.zero_add, Nat.reduceAdd, Nat.reduceLeDiff, Nat.reduceLT, Nat.reduceEqDiff, Nat.reduceMul, Nat.add_left_cancel_iff, not_false_eq_true, i10, Bool.false_eq_true, z01, ne_eq, not_true_eq_false, not_false_eq_true, or_self, true_or, or_true, false_or, or_false]
    · have c8 : (12 : Int32) ≤ nI (k + 1) := by rw [show k + 1 = 12 by omega]; decide
      refine ⟨g4, c4 + 1, fun Q => ?_, c41, hc5.symm, hm4, n4, s4⟩
      rw [k4 Q, qM_readPairs_168]
      simp only [qM_readPairs_190, jM_readPairs_190, qM_readPairs_191, jM_readPairs_191, jM_readPairs_4, w0, w1, w2i, w2r, w3, w4, w5_0, w5_1, w5_2, w5_3, w5_4, w5_5, w5_6, w5_7, w5_8, w6_0, w6_1, w7_0, w7_1, w7_2, w7_3, w7_4, w7_5, w8_0, w8_1, w9_0, w9_1, w9_2, w10_0, w10_1, w10_2, w10_3, w10_4, w10_5, w11, w12_0, w12_1, w12_2, w12_3, w12_4, w12_5, w13_0, w13_1, w13_2, w13_3, w13_4, w13_5, w14, w15i, w15r, w16, w17, w18, w19i, w19z, w19l, w20, w21, w22, w23, w24, w25, w26, w27, w28_1, w28_2, w28_3, w28_4, w28_5, w28_6, w29, w30i, w30z, w31, w32, w33, w34, w35, w36, w37_1, w37_2, w37_3, w37_4, w37_5, w37_6, isO_O, set1_0, set1_1i, set1_1r, set1_1n, set1_1l, set1_s, set2_0, set2_1i, set2_1r, set2_1n, set2_1l, set2_s, ldv_i, ldv_l, ldv_r, ldv_s, ldi_i, ldi_s, fK_0, fK_s, gfc_O, fS_0, fS_s, uH_s, uH_n, uH_u, tl_s, tl_n, b1_0, b1_1, ite_true, ite_false, if_true, if_false, List.length_nil, List.length_cons, Nat.zero_le, Nat.zero_add, Nat.reduceAdd, Nat.reduceLeDiff, Nat.reduceLT, Nat.reduceEqDiff, Nat.reduceMul, Nat.add_left_cancel_iff, not_false_eq_true, i10, Bool.false_eq_true, z01, ne_eq, not_true_eq_false, not_false_eq_true, or_self, true_or, or_true, false_or, or_false, nI_1, c8]
      rw [qM_readPairs_4]
      simp only [qM_readPairs_195, jM_readPairs_195, w0, w1, w2i, w2r, w3, w4, w5_0, w5_1, w5_2, w5_3, w5_4, w5_5, w5_6, w5_7, w5_8, w6_0, w6_1, w7_0, w7_1, w7_2, w7_3, w7_4, w7_5, w8_0, w8_1, w9_0, w9_1, w9_2, w10_0, w10_1, w10_2, w10_3, w10_4, w10_5, w11, w12_0, w12_1, w12_2, w12_3, w12_4, w12_5, w13_0, w13_1, w13_2, w13_3, w13_4, w13_5, w14, w15i, w15r, w16, w17, w18, w19i, w19z, w19l, w20, w21, w22, w23, w24, w25, w26, w27, w28_1, w28_2, w28_3, w28_4, w28_5, w28_6, w29, w30i, w30z, w31, w32, w33, w34, w35, w36, w37_1, w37_2, w37_3, w37_4, w37_5, w37_6, isO_O, set1_0, set1_1i, set1_1r, set1_1n, set1_1l, set1_s, set2_0, set2_1i, set2_1r, set2_1n, set2_1l, set2_s, ldv_i, ldv_l, ldv_r, ldv_s, ldi_i, ldi_s, fK_0, fK_s, gfc_O, fS_0, fS_s, uH_s, uH_n, uH_u, tl_s, tl_n, b1_0, b1_1, ite_true, ite_false, if_true, if_false, List.length_nil, List.length_cons, Nat.zero_le, Nat.zero_add, Nat.reduceAdd, Nat.reduceLeDiff, Nat.reduceLT, Nat.reduceEqDiff, Nat.reduceMul, Nat.add_left_cancel_iff, not_false_eq_true, i10, Bool.false_eq_true, z01, ne_eq, not_true_eq_false, not_false_eq_true, or_self, true_or, or_true, false_or, or_false]
  by_cases rl : c5 < l
  rotate_left
  · -- the end
    have sg : sgC tb l c5 = -1 := if_neg rl
    refine ⟨0, c5, T', ps sh a b (nI v), ps rs a b (nI v), lc5.2, fun _ => ⟨by omega, hI'⟩, fun z => absurd z (by decide), by decide, fun h x5 x6 x7 x8 hc => ?_, fun g y4 y5 y6 y7 hm => ?_⟩
    · obtain ⟨h8, k8, hc8, n8, s8⟩ := C5 h x5 x6 x7 x8 hc
      refine ⟨h8, fun Q => ?_, fun _ => hc8, hc8.2.2.1, n8, s8⟩
      rw [k8 Q, sg, if_neg (fun z => z rfl), if_pos rfl]
    · obtain ⟨g', pm, k', p1, p2, hm', n', s'⟩ := MX (fun z => rl z.2.1) g y4 y5 y6 y7 hm
      exact ⟨g', pm, k', fun z => absurd z (by decide), fun _ => ⟨p1, p2, hm'⟩, n', s'⟩
  have tr := hT.2 _ rl
  have sg : sgC tb l c5 = nI (tb c5) := if_pos rl
  have m1 : ¬ nI (tb c5) = -1 := nn1 (by omega)
  by_cases r44 : k + 1 < 12 ∧ tb c5 = 44
  · -- on
    have m44 : nI (tb c5) = 44 := by rw [r44.2]; rfl
    obtain ⟨st, pos, T2, sh2, rs2, o1, o2, o3, o4, oC, oM⟩ := ih r44.1 (c5 + 1) T' (ps sh a b (nI v)) (ps rs a b (nI v)) (by omega) hI'
    refine ⟨st, pos, T2, sh2, rs2, o1, o2, o3, o4, fun h x5 x6 x7 x8 hc => ?_, fun g y4 y5 y6 y7 hm => ?_⟩
    · obtain ⟨h8, k8, hc8, n8, s8⟩ := C5 h x5 x6 x7 x8 hc
      obtain ⟨q15, q20, q26, q27⟩ := hc8
      obtain ⟨h9, e9, r26, n9, s9⟩ := incE q26
      obtain ⟨h10, k10, hc10, c10, n10, s10⟩ := oC h9 (some (.int (nI a))) (some (.int (nI b))) (some (.int (nI v))) (some (.int (nI (tb c5)))) ⟨(n9 15 (by decide)).trans q15, (n9 20 (by decide)).trans q20, r26, (n9 27 (by decide)).trans q27⟩
      refine ⟨h10, fun Q => ?_, hc10, c10, (n8.t (n9.m (by decide))).t n10, fun z => s10 (s9 (s8 z))⟩
      rw [k8 Q, sg, if_pos m1, if_neg (fun z => z m44), if_pos (show ¬ k = 11 by omega), ← e9, k10 Q]
    · obtain ⟨g4, k4, hm4, n4, s4⟩ := M5 g y4 y5 y6 y7 hm
      have j39 := hm4.1
      have c8 : ¬ (12 : Int32) ≤ nI (k + 1) := nI_ge (b := 12) r44.1 (by decide)
      obtain ⟨g5, k5, l39, n5, s5⟩ := haE (c := 44) hT htp (by decide) c41 j39 hm4.2.1 (by rw [← hc5]; exact ⟨rl, r44.2⟩)
      rw [show nI 44 = 44 from rfl] at k5
      rw [← hc5] at l39
      obtain ⟨g6, pm, k6, o5, o6, n6, s6⟩ := oM g5 (some (.int (nI a))) (some (.int (nI b))) (some (.int 0)) (some (.int (nI v))) ⟨l39, (n5 45 (by decide)).trans hm4.2.1, (n5 47 (by decide)).trans hm4.2.2⟩
      refine ⟨g6, pm, fun Q => ?_, o5, o6, (n4.t (n5.m (by decide))).t n6, fun z => s6 (s5 (s4 z))⟩
      rw [← k6 Q, k4 Q, qM_readPairs_168]
      simp only [qM_readPairs_190, jM_readPairs_190, qM_readPairs_191, jM_readPairs_191, jM_readPairs_4, w0, w1, w2i, w2r, w3, w4, w5_0, w5_1, w5_2, w5_3, w5_4, w5_5, w5_6, w5_7, w5_8, w6_0, w6_1, w7_0, w7_1, w7_2, w7_3, w7_4, w7_5, w8_0, w8_1, w9_0, w9_1, w9_2, w10_0, w10_1, w10_2, w10_3, w10_4, w10_5, w11, w12_0, w12_1, w12_2, w12_3, w12_4, w12_5, w13_0, w13_1, w13_2, w13_3, w13_4, w13_5, w14, w15i, w15r, w16, w17, w18, w19i, w19z, w19l, w20, w21, w22, w23, w24, w25, w26, w27, w28_1, w28_2, w28_3, w28_4, w28_5, w28_6, w29, w30i, w30z, w31, w32, w33, w34, w35, w36, w37_1, w37_2, w37_3, w37_4, w37_5, w37_6, isO_O, set1_0, set1_1i, set1_1r, set1_1n, set1_1l, set1_s, set2_0, set2_1i, set2_1r, set2_1n, set2_1l, set2_s, ldv_i, ldv_l, ldv_r, ldv_s, ldi_i, ldi_s, fK_0, fK_s, gfc_O, fS_0, fS_s, uH_s, uH_n, uH_u, tl_s, tl_n, b1_0, b1_1, ite_true, ite_false, if_true, if_false, List.length_nil, List.length_cons, Nat.zero_le, Nat.zero_add, Nat.reduceAdd, Nat.reduceLeDiff, Nat.reduceLT, Nat.reduceEqDiff, Nat.reduceMul, Nat.add_left_cancel_iff, not_false_eq_true, i10, Bool.false_eq_true, z01, ne_eq, not_true_eq_false, not_false_eq_true, or_self, true_or, or_true, false_or, or_false, nI_1, c8, j39, k5]
  · refine ⟨2, c5, T', ps sh a b (nI v), ps rs a b (nI v), lc5.2, fun z => absurd z (by decide), fun _ => rl, by decide, fun h x5 x6 x7 x8 hc => ?_, fun g y4 y5 y6 y7 hm => ?_⟩
    · obtain ⟨h8, k8, hc8, n8, s8⟩ := C5 h x5 x6 x7 x8 hc
      refine ⟨h8, fun Q => ?_, fun z => absurd z (by decide), hc8.2.2.1, n8, s8⟩
      rw [k8 Q, sg, if_pos m1, if_neg (show ¬ 2 = 0 by decide)]
      by_cases m44 : nI (tb c5) = 44
      · have r7 : k = 11 := by
          have : tb c5 = 44 := by rw [n44 (by omega)] at m44; exact m44
          have : ¬ k + 1 < 12 := fun z => r44 ⟨z, this⟩
          omega
        rw [if_neg (fun z => z m44), if_neg (fun z => z r7)]
      · rw [if_pos m44]
    · obtain ⟨g', pm, k', p1, p2, hm', n', s'⟩ := MX (fun z => r44 ⟨z.1, z.2.2⟩) g y4 y5 y6 y7 hm
      exact ⟨g', pm, k', fun z => absurd z (by decide), fun _ => ⟨p1, p2, hm'⟩, n', s'⟩
theorem shares {tb : Nat → Nat} {l : Nat} {bt tp : Nat → Int32} {pu3 ye3 ho pu ye bo : Int32} {be : Int64} {kn pr im : Int32} (hT : Tb tb l) (hbt : ∀ k, k < l → bt k = nI (tb k)) (htp : ∀ k, k < l → tp k = nI (tb k)) {n : Nat} (hn : 1 ≤ n ∧ n ≤ 8) : ∀ (d k p : Nat) (T : Int64) (sh rs : Nat → Int32), k + (d + 1) = 12 → p ≤ l → IV n T sh rs → SO2 tb l bt tp pu3 ye3 ho pu ye bo be kn pr im n k p T sh rs := by
  intro d
  induction d with
  | zero =>
    intro k p T sh rs hk hp hI
    exact shares_step hT hbt htp hn (by omega) hp hI (fun h => absurd h (by omega))
  | succ d ih =>
    intro k p T sh rs hk hp hI
    exact shares_step hT hbt htp hn (by omega) hp hI (fun _ p' T' sh' rs' hp' hI' => ih (k + 1) p' T' sh' rs' (by omega) hp' hI')

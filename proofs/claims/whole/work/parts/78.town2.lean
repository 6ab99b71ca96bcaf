/-! the pair: town, all -/
theorem M_good {g : AH} {n l : Nat} {ho pu ye bo ax wr : Int32} {be : Int64} {kn pr im : Int32} {rd K A rs ki as ow ca sh : Nat → Int32} {x2 : Option Value} (hn : n ≤ 8) (hr : ∀ a, a < n → rd (2 * a) = K a ∧ rd (2 * a + 1) = A a) (h39 : g 39 = mO ho pu ye bo (nI l) ax wr be kn pr im) (h46 : g 46 = aI 16 rd) (h47 : g 47 = aI 64 rs) (h40 : g 40 = aI 8 ki) (h41 : g 41 = aI 8 as) (h42 : g 42 = aI 8 ow) (h43 : g 43 = aI 8 ca) (h44 : g 44 = aI 64 sh) : ∃ (g' : AH) (ki' as' ow' ca' sh' : Nat → Int32), (∀ Q, Wp none 110 qM_town_71 [some (.ref 39), some (.int (nI n)), x2] [.int 0, .ref 39] g Q = Q (some (.int (nI n))) g') ∧ g' 39 = mO (nI n) pu ye bo (nI 0) ax 0 be kn pr im ∧ g' 40 = aI 8 ki' ∧ g' 41 = aI 8 as' ∧ g' 42 = aI 8 ow' ∧ g' 43 = aI 8 ca' ∧ g' 44 = aI 64 sh' ∧ (∀ a, a < n → ki' a = K a ∧ as' a = A a ∧ ow' a = 0 ∧ ca' a = 99) ∧ (∀ a c, a < n → c < n → sh' (8 * a + c) = if rs (8 * a + c) ≤ 0 then 0 else rs (8 * a + c)) ∧ NS [39, 40, 41, 42, 43, 44] g g' ∧ (Sh g → Sh g') := by
  obtain ⟨g1, e1, d39, n1, s1⟩ : ∃ q : AH, q = uH g 39 (aO 5 [.int 0, .ref 40, .ref 41, .ref 42, .ref 43, .ref 44, .int pu, .int ye, .int bo, .ref 45, .int 0, .int ax, .int 0, .ref 46, .ref 47, .ref 48, .ref 49, .ref 50, .long be, .int kn, .int pr, .ref 51, .ref 52, .ref 53, .ref 54, .ref 55, .ref 56, .int im, .ref 57, .ref 58, .ref 59, .ref 60]) ∧ q 39 = mO (nI 0) pu ye bo (nI 0) ax 0 be kn pr im ∧ NS [39] g q ∧ (Sh g → Sh q) := ⟨_, rfl, uH_s _ _ _, NS.r.u (by decide), fun z => sh_39 (ho := 0) (ta := 0) (wr := 0) z⟩
  obtain ⟨g2, ki', as', ow', ca', sh', k2, e39, e40, e41, e42, e43, e44, hk', hs', n2, s2⟩ := M_town_comes hn hr n 0 g1 ki as ow ca sh (by omega) d39 ((n1 46 (by decide)).trans h46) ((n1 40 (by decide)).trans h40) ((n1 41 (by decide)).trans h41) ((n1 42 (by decide)).trans h42) ((n1 43 (by decide)).trans h43) ((n1 44 (by decide)).trans h44) (fun a ha => absurd ha (by omega)) (fun a c _ _ z => by omega)
  have lp := fun (Q : Option Value → AH → Prop) => M_town_sh (Q := Q) (n := nI n) (sh := sh') 64 0 g2 (by omega) e39 ((n2 47 (by decide)).trans ((n1 47 (by decide)).trans h47)) (by rw [fa_fill_0]; exact e44)
  simp only [show nI 0 = 0 from rfl] at k2 lp
  refine ⟨_, ki', as', ow', ca', _, fun Q => ?_, by rw [uH_n _ _ (by decide)]; exact e39, by rw [uH_n _ _ (by decide)]; exact e40, by rw [uH_n _ _ (by decide)]; exact e41, by rw [uH_n _ _ (by decide)]; exact e42, by rw [uH_n _ _ (by decide)]; exact e43, uH_s g2 44 (aI 64 (fa_fill (fun k => if rs k ≤ 0 then sh' k else rs k) sh' 64)), hk', fun a c ha hc => ?_, ((n1.m (by decide)).t n2).t (NS.r.u (by decide)), fun z => sh_44 (s2 (s1 z))⟩
  · rw [← lp Q]
    rw [qM_town_71]
    simp only [qM_town_94, jM_town_94, w0, w1, w2i, w2r, w3, w4, w5_0, w5_1, w5_2, w5_3, w5_4, w5_5, w5_6, w5_7, w5_8, w6_0, w6_1, w7_0, w7_1, w7_2, w7_3, w7_4, w7_5, w8_0, w8_1, w9_0, w9_1, w9_2, w10_0, w10_1, w10_2, w10_3, w10_4, w10_5, w11, w12_0, w12_1, w12_2, w12_3, w12_4, w12_5, w13_0, w13_1, w13_2, w13_3, w13_4, w13_5, w14, w15i, w15r, w16, w17, w18, w19i, w19z, w19l, w20, w21, w22, w23, w24, w25, w26, w27, w28_1, w28_2, w28_3, w28_4, w28_5, w28_6, w29, w30i, w30z, w31, w32, w33, w34, w35, w36, w37_1, w37_2, w37_3, w37_4, w37_5, w37_6, isO_O, set1_0, set1_1i, set1_1r, set1_1n, set1_1l, set1_s, set2_0, set2_1i, set2_1r, set2_1n, set2_1l, set2_s, ldv_i, ldv_l, ldv_r, ldv_s, ldi_i, ldi_s, fK_0, fK_s, gfc_O, fS_0, fS_s, uH_s, uH_n, uH_u, tl_s, tl_n, b1_0, b1_1, ite_true, ite_false, if_true, if_false, List.length_nil, List.length_cons, Nat.zero_le, Nat.zero_add, Nat.reduceAdd, Nat.reduceLeDiff, Nat.reduceLT, Nat.reduceEqDiff, Nat.reduceMul, Nat.add_left_cancel_iff, not_false_eq_true, i10, Bool.false_eq_true, z01, ne_eq, not_true_eq_false, not_false_eq_true, or_self, true_or, or_true, false_or, or_false, h39, pfc_O, ← e1, k2]
    rw [qM_town_134]
    simp only [w0, w1, w2i, w2r, w3, w4, w5_0, w5_1, w5_2, w5_3, w5_4, w5_5, w5_6, w5_7, w5_8, w6_0, w6_1, w7_0, w7_1, w7_2, w7_3, w7_4, w7_5, w8_0, w8_1, w9_0, w9_1, w9_2, w10_0, w10_1, w10_2, w10_3, w10_4, w10_5, w11, w12_0, w12_1, w12_2, w12_3, w12_4, w12_5, w13_0, w13_1, w13_2, w13_3, w13_4, w13_5, w14, w15i, w15r, w16, w17, w18, w19i, w19z, w19l, w20, w21, w22, w23, w24, w25, w26, w27, w28_1, w28_2, w28_3, w28_4, w28_5, w28_6, w29, w30i, w30z, w31, w32, w33, w34, w35, w36, w37_1, w37_2, w37_3, w37_4, w37_5, w37_6, isO_O, set1_0, set1_1i, set1_1r, set1_1n, set1_1l, set1_s, set2_0, set2_1i, set2_1r, set2_1n, set2_1l, set2_s, ldv_i, ldv_l, ldv_r, ldv_s, ldi_i, ldi_s, fK_0, fK_s, gfc_O, fS_0, fS_s, uH_s, uH_n, uH_u, tl_s, tl_n, b1_0, b1_1, ite_true, ite_false, if_true, if_false, List.length_nil, List.length_cons, Nat.zero_le, Nat.zero_add, Nat.reduceAdd, Nat.reduceLeDiff, Nat.reduceLT, Nat.reduceEqDiff, Nat.reduceMul, Nat.add_left_cancel_iff, not_false_eq_true]
  · rw [fa_fill_in (by omega)]
    by_cases z : rs (8 * a + c) ≤ 0
    · rw [if_pos z, if_pos z]; exact hs' a c (by omega) (by omega) (Or.inl ha)
    · rw [if_neg z, if_neg z]
theorem P_town : Pr 48 110 [] := by
  intro h hR
  have hR0 := hR
  obtain ⟨hS, hV1, hV2, hV3, hV4⟩ := hR
  refine RR_case hR0 ?_
  intro m l ik pu ye ki as ow ca sh ah n2 pu2 ye2 ki2 as2 ow2 ca2 sh2 ah2 n3 pu3 ye3 ki3 as3 ow3 ca3 sh3 ah3 be re op sz ab ak ro pt bt fi si th0 la0 le0 it0 th1 la1 le1 it1 th2 la2 le2 it2 th3 la3 le3 it3 ax wr bm kn pr kiM asM owM caM shM tp rd rs rw su abM kp tn td fs ss ig lns szs its mv c0 c1 c2 c3 c4 c5 c6 c7 c8 c9 c10 c11 c12 c13 c14 c15 c16 c17 c18 c19 c20 c21 c22 c23 c24 c25 c26 c27 c28 c29 c30 c31 c32 c33 c34 c35 c36 c37 c38 c39 c40 c41 c42 c43 c44 c45 c46 c47 c48 c49 c50 c51 c52 c53 c54 c55 c56 c57 c58 c59 c60 hRl hTp
  have hm : m ≤ 8 := hRl.1
  obtain ⟨tb, hT, hbt, htp⟩ : ∃ tb : Nat → Nat, Tb tb l ∧ (∀ k, k < l → bt k = nI (tb k)) ∧ (∀ k, k < l → tp k = nI (tb k)) := by
    have e : ∀ k, k < l → tp k = nI ((tp k).toInt.toNat) := fun k hk => by
      have := hTp.2 k hk
      apply Int32.toInt_inj.mp
      rw [nI_toInt (by omega)]
      omega
    exact ⟨fun k => (tp k).toInt.toNat, ⟨hTp.1, fun k hk => by have := hTp.2 k hk; show 32 ≤ (tp k).toInt.toNat ∧ (tp k).toInt.toNat ≤ 126; omega⟩, fun k hk => by rw [(hTp.2 k hk).1]; exact e k hk, e⟩
  have hl := hT.1
  obtain ⟨h1, k1, d15, d16, d17, d18, d19, d20, n1, s1⟩ := takeT c15 c1 c16 c2 c17 c3 c18 c4 c19 c5 c20 c6
  obtain ⟨h2, k2, e15, e20, n2, s2⟩ : ∃ g : AH, (∀ Q, WpM 32 [.ref 15] h1 Q = Q none g) ∧ g 15 = tO 15 (nI 0) pu ye ∧ g 20 = aI 64 (clF (va_cpy sh sh3 0 0 64) 64) ∧ NS [15, 20] h1 g ∧ (Sh h1 → Sh g) := ⟨_, fun Q => T_clear (t := 15) d15 d20, by rw [uH_n _ _ (by decide)]; exact uH_s _ _ _, uH_s _ _ _, (NS.r.u (by decide)).u (by decide), fun hS => sh_20 (sh_15 (n3 := 0) hS)⟩
  have n12 : NS [15, 16, 17, 18, 19, 20] h h2 := n1.t (n2.m (by decide))
  have e26 := (n12 26 (by decide)).trans c26
  have e27 := (n12 27 (by decide)).trans c27
  obtain ⟨h3, q3, g26, n3, s3⟩ : ∃ q : AH, q = uH h2 26 (aO 2 [.ref 27, .int (nI l), .int 0]) ∧ q 26 = aO 2 [.ref 27, .int (nI l), .int (nI 0)] ∧ NS [26] h2 q ∧ (Sh h2 → Sh q) := ⟨_, rfl, uH_s _ _ _, NS.r.u (by decide), fun z => sh_26 z⟩
  have HC3 : HC l bt pu ye 0 0 (fun _ => 0) (fun _ => 0) h3 := ⟨(n3 15 (by decide)).trans e15, ⟨_, _, _, _, (n3 16 (by decide)).trans ((n2 16 (by decide)).trans d16), (n3 17 (by decide)).trans ((n2 17 (by decide)).trans d17), (n3 18 (by decide)).trans ((n2 18 (by decide)).trans d18), (n3 19 (by decide)).trans ((n2 19 (by decide)).trans d19), fun a ha => absurd ha (by omega)⟩, g26, (n3 27 (by decide)).trans e27⟩
  obtain ⟨st, n', pos, K', A', o1, o2, o3, o4, oC, oM⟩ := houses (pu3 := pu) (ye3 := ye) (ho := nI m) (pu := pu) (ye := ye) (bo := nI 0) (be := bm) (kn := kn) (pr := pr) (im := ik) hT hbt htp 7 0 0 (fun _ => 0) (fun _ => 0) (by omega) (by omega) (fun a ha => absurd ha (by omega))
  obtain ⟨h4, k4, hc4, i26, n4, s4⟩ := oC h3 none none none HC3
  have kR : ∀ Q, WpM 16 [.ref 26, .ref 15] h3 Q = Q (some (.int (if st = 0 then 0 else -20 - nI pos))) h4 := fun Q => by
    rw [← k4 Q, eP_readHouses]
    simp only [qP_readHouses_0, w0, w1, w2i, w2r, w3, w4, w5_0, w5_1, w5_2, w5_3, w5_4, w5_5, w5_6, w5_7, w5_8, w6_0, w6_1, w7_0, w7_1, w7_2, w7_3, w7_4, w7_5, w8_0, w8_1, w9_0, w9_1, w9_2, w10_0, w10_1, w10_2, w10_3, w10_4, w10_5, w11, w12_0, w12_1, w12_2, w12_3, w12_4, w12_5, w13_0, w13_1, w13_2, w13_3, w13_4, w13_5, w14, w15i, w15r, w16, w17, w18, w19i, w19z, w19l, w20, w21, w22, w23, w24, w25, w26, w27, w28_1, w28_2, w28_3, w28_4, w28_5, w28_6, w29, w30i, w30z, w31, w32, w33, w34, w35, w36, w37_1, w37_2, w37_3, w37_4, w37_5, w37_6, isO_O, set1_0, set1_1i, set1_1r, set1_1n, set1_1l, set1_s, set2_0, set2_1i, set2_1r, set2_1n, set2_1l, set2_s, ldv_i, ldv_l, ldv_r, ldv_s, ldi_i, ldi_s, fK_0, fK_s, gfc_O, fS_0, fS_s, uH_s, uH_n, uH_u, tl_s, tl_n, b1_0, b1_1, ite_true, ite_false, if_true, if_false, List.length_nil, List.length_cons, Nat.zero_le, Nat.zero_add, Nat.reduceAdd, Nat.reduceLeDiff, Nat.reduceLT, Nat.reduceEqDiff, Nat.reduceMul, Nat.add_left_cancel_iff, not_false_eq_true]
    rfl
  have n34 : NS [15, 16, 17, 18, 19, 20, 26] h2 h4 := (n3.m (by decide)).t (n4.m (by decide))
  have d0 := (n1 0 (by decide)).trans c0
  have f0 := (n12 0 (by decide)).trans c0
  -- the class, when the text has a fault
  have CF : ∀ (F at' : Int32) (h4 : AH), F ≤ 0 → (∀ Q, WpM 15 [.ref 26, .ref 15] h2 Q = Q (some (.int F)) h4) → h4 26 = aO 2 [.ref 27, .int (nI l), .int at'] → NS [15, 16, 17, 18, 19, 20, 26] h2 h4 → (Sh h2 → Sh h4) → ∃ h5 : AH, (∀ Q, WpM 48 [.ref 0] h Q = Q (some (.int F)) h5) ∧ h5 26 = aO 2 [.ref 27, .int (nI 0), .int at'] ∧ NS (26 :: SC) h h5 ∧ (Sh h → Sh h5) := by
    intro F at' h4 hF kT i26 n4 s4
    have i0 := (n4 0 (by decide)).trans f0
    refine ⟨uH h4 26 (aO 2 [.ref 27, .int 0, .int at']), fun Q => ?_, uH_s _ _ _, ((n12.m (by decide)).t (n4.m (by decide))).t (NS.r.u (by decide)), fun z => sh_26 (s4 (s2 (s1 z)))⟩
    rw [eC_town]
    simp only [qC_town_0, jC_town_0, qC_town_53, jC_town_53, w0, w1, w2i, w2r, w3, w4, w5_0, w5_1, w5_2, w5_3, w5_4, w5_5, w5_6, w5_7, w5_8, w6_0, w6_1, w7_0, w7_1, w7_2, w7_3, w7_4, w7_5, w8_0, w8_1, w9_0, w9_1, w9_2, w10_0, w10_1, w10_2, w10_3, w10_4, w10_5, w11, w12_0, w12_1, w12_2, w12_3, w12_4, w12_5, w13_0, w13_1, w13_2, w13_3, w13_4, w13_5, w14, w15i, w15r, w16, w17, w18, w19i, w19z, w19l, w20, w21, w22, w23, w24, w25, w26, w27, w28_1, w28_2, w28_3, w28_4, w28_5, w28_6, w29, w30i, w30z, w31, w32, w33, w34, w35, w36, w37_1, w37_2, w37_3, w37_4, w37_5, w37_6, isO_O, set1_0, set1_1i, set1_1r, set1_1n, set1_1l, set1_s, set2_0, set2_1i, set2_1r, set2_1n, set2_1l, set2_s, ldv_i, ldv_l, ldv_r, ldv_s, ldi_i, ldi_s, fK_0, fK_s, gfc_O, fS_0, fS_s, uH_s, uH_n, uH_u, tl_s, tl_n, b1_0, b1_1, ite_true, ite_false, if_true, if_false, List.length_nil, List.length_cons, Nat.zero_le, Nat.zero_add, Nat.reduceAdd, Nat.reduceLeDiff, Nat.reduceLT, Nat.reduceEqDiff, Nat.reduceMul, Nat.add_left_cancel_iff, not_false_eq_true, i10, Bool.false_eq_true, z01, ne_eq, not_true_eq_false, not_false_eq_true, or_self, true_or, or_true, false_or, or_false, c0, c15, k1, d0, d15, k2, f0, e26, kT, i0, i26, pfc_2, hF]
  -- the class, when the text is a town
  have CG : ∀ (n' : Nat) (at' : Int32) (h4 : AH) (ki4 as4 ow4 ca4 sh4 : Nat → Int32), 1 ≤ n' → n' ≤ 8 → (∀ Q, WpM 15 [.ref 26, .ref 15] h2 Q = Q (some (.int (nI n'))) h4) → h4 26 = aO 2 [.ref 27, .int (nI l), .int at'] → h4 15 = tO 15 (nI n') pu ye → h4 16 = aI 8 ki4 → h4 17 = aI 8 as4 → h4 18 = aI 8 ow4 → h4 19 = aI 8 ca4 → h4 20 = aI 64 sh4 → NS [15, 16, 17, 18, 19, 20, 26] h2 h4 → (Sh h2 → Sh h4) → ∃ h5 : AH, (∀ Q, WpM 48 [.ref 0] h Q = Q (some (.int (nI n'))) h5) ∧ h5 26 = aO 2 [.ref 27, .int (nI 0), .int at'] ∧ h5 1 = tO 1 (nI n') pu ye ∧ h5 2 = aI 8 (va_cpy ki4 ki 0 0 8) ∧ h5 3 = aI 8 (va_cpy as4 as 0 0 8) ∧ h5 4 = aI 8 (va_cpy ow4 ow 0 0 8) ∧ h5 5 = aI 8 (va_cpy ca4 ca 0 0 8) ∧ h5 6 = aI 64 (va_cpy sh4 sh 0 0 64) ∧ NS ([1, 2, 3, 4, 5, 6, 26] ++ SC) h h5 ∧ (Sh h → Sh h5) := by
    intro n' at' h4 ki4 as4 ow4 ca4 sh4 p1 p8 kT i26 i15 i16 i17 i18 i19 i20 n4 s4
    have i0 := (n4 0 (by decide)).trans f0
    obtain ⟨h5, q5, j26, n5, s5⟩ : ∃ q : AH, q = uH h4 26 (aO 2 [.ref 27, .int 0, .int at']) ∧ q 26 = aO 2 [.ref 27, .int (nI 0), .int at'] ∧ NS [26] h4 q ∧ (Sh h4 → Sh q) := ⟨_, rfl, uH_s _ _ _, NS.r.u (by decide), fun z => sh_26 z⟩
    have n15 : NS [15, 16, 17, 18, 19, 20, 26] h h5 := ((n12.m (by decide)).t n4).t (n5.m (by decide))
    have j1 := (n15 1 (by decide)).trans c1
    have j0 := (n15 0 (by decide)).trans c0
    have pf := fun (Q : Option Value → AH → Prop) => T_takeFrom_1_15 (Q := Q) j1 ((n5 15 (by decide)).trans i15) ((n15 2 (by decide)).trans c2) ((n5 16 (by decide)).trans i16) ((n15 3 (by decide)).trans c3) ((n5 17 (by decide)).trans i17) ((n15 4 (by decide)).trans c4) ((n5 18 (by decide)).trans i18) ((n15 5 (by decide)).trans c5) ((n5 19 (by decide)).trans i19) ((n15 6 (by decide)).trans c6) ((n5 20 (by decide)).trans i20)
    obtain ⟨h6, k6, l1, l2, l3, l4, l5, l6, n6, s6⟩ : ∃ g : AH, (∀ Q, WpM 40 [.ref 1, .ref 15] h5 Q = Q none g) ∧ g 1 = tO 1 (nI n') pu ye ∧ g 2 = aI 8 (va_cpy ki4 ki 0 0 8) ∧ g 3 = aI 8 (va_cpy as4 as 0 0 8) ∧ g 4 = aI 8 (va_cpy ow4 ow 0 0 8) ∧ g 5 = aI 8 (va_cpy ca4 ca 0 0 8) ∧ g 6 = aI 64 (va_cpy sh4 sh 0 0 64) ∧ NS [1, 2, 3, 4, 5, 6] h5 g ∧ (Sh h5 → Sh g) := by
      refine ⟨_, pf, ?_, ?_, ?_, ?_, ?_, ?_, ?_, fun hS => sh_6 (sh_5 (sh_4 (sh_3 (sh_2 (sh_1 hS)))))⟩
      · simp only [uH_s, uH_n, Nat.reduceEqDiff, not_false_eq_true]
      · simp only [uH_s, uH_n, Nat.reduceEqDiff, not_false_eq_true]
      · simp only [uH_s, uH_n, Nat.reduceEqDiff, not_false_eq_true]
      · simp only [uH_s, uH_n, Nat.reduceEqDiff, not_false_eq_true]
      · simp only [uH_s, uH_n, Nat.reduceEqDiff, not_false_eq_true]
      · simp only [uH_s, uH_n, Nat.reduceEqDiff, not_false_eq_true]
      · exact (((((NS.r.u (by decide)).u (by decide)).u (by decide)).u (by decide)).u (by decide)).u (by decide)
    refine ⟨h6, fun Q => ?_, (n6 26 (by decide)).trans j26, l1, l2, l3, l4, l5, l6, (n15.m (by decide)).t (n6.m (by decide)), fun z => s6 (s5 (s4 (s2 (s1 z))))⟩
    rw [eC_town]
    simp only [qC_town_0, jC_town_0, qC_town_53, jC_town_53, w0, w1, w2i, w2r, w3, w4, w5_0, w5_1, w5_2, w5_3, w5_4, w5_5, w5_6, w5_7, w5_8, w6_0, w6_1, w7_0, w7_1, w7_2, w7_3, w7_4, w7_5, w8_0, w8_1, w9_0, w9_1, w9_2, w10_0, w10_1, w10_2, w10_3, w10_4, w10_5, w11, w12_0, w12_1, w12_2, w12_3, w12_4, w12_5, w13_0, w13_1, w13_2, w13_3, w13_4, w13_5, w14, w15i, w15r, w16, w17, w18, w19i, w19z, w19l, w20, w21, w22, w23, w24, w25, w26, w27, w28_1, w28_2, w28_3, w28_4, w28_5, w28_6, w29, w30i, w30z, w31, w32, w33, w34, w35, w36, w37_1, w37_2, w37_3, w37_4, w37_5, w37_6, isO_O, set1_0, set1_1i, set1_1r, set1_1n, set1_1l, set1_s, set2_0, set2_1i, set2_1r, set2_1n, set2_1l, set2_s, ldv_i, ldv_l, ldv_r, ldv_s, ldi_i, ldi_s, fK_0, fK_s, gfc_O, fS_0, fS_s, uH_s, uH_n, uH_u, tl_s, tl_n, b1_0, b1_1, ite_true, ite_false, if_true, if_false, List.length_nil, List.length_cons, Nat.zero_le, Nat.zero_add, Nat.reduceAdd, Nat.reduceLeDiff, Nat.reduceLT, Nat.reduceEqDiff, Nat.reduceMul, Nat.add_left_cancel_iff, not_false_eq_true, i10, Bool.false_eq_true, z01, ne_eq, not_true_eq_false, not_false_eq_true, or_self, true_or, or_true, false_or, or_false, c0, c15, k1, d0, d15, k2, f0, e26, kT, i0, i26, pfc_2, n_pos p1 p8, ← q5, j0, j1, (n4 1 (by decide)).trans ((n12 1 (by decide)).trans c1), k6]
  -- the reference up to behind the houses
  have MP : ∀ g : AH, g 39 = mO (nI m) pu ye (nI 0) (nI l) ax wr bm kn pr ik → g 45 = aI 100 tp → g 46 = aI 16 rd → g 47 = aI 64 rs → ∃ (g1 g2 g3 : AH) (z : Int32) (pm : Nat), g1 = uH g 39 (aO 5 [.int (nI m), .ref 40, .ref 41, .ref 42, .ref 43, .ref 44, .int pu, .int ye, .int (nI 0), .ref 45, .int (nI l), .int 0, .int 0, .ref 46, .ref 47, .ref 48, .ref 49, .ref 50, .long bm, .int kn, .int pr, .ref 51, .ref 52, .ref 53, .ref 54, .ref 55, .ref 56, .int ik, .ref 57, .ref 58, .ref 59, .ref 60]) ∧ (∀ Q, Wp none 110 qM_town_12 [some (.ref 39), some (.int 0), none] [] g1 Q = Wp none 110 qM_town_32 [some (.ref 39), some (.int (nI 64)), none] [] g2 Q) ∧ g2 39 = mO (nI m) pu ye (nI 0) (nI l) (nI 0) 0 bm kn pr ik ∧ (∀ Q, WpM 108 [.ref 39] g2 Q = Q (some (.int z)) g3) ∧ (st = 1 → g3 39 = mO (nI m) pu ye (nI 0) (nI l) (nI pos) 1 bm kn pr ik) ∧ (¬ st = 1 → z = nI n' ∧ pm ≤ l ∧ sk tb l pm = pos ∧ HM l tp (nI m) pu ye (nI 0) bm kn pr ik n' pm K' A' g3) ∧ g3 47 = aI 64 (fa_fill (fun _ => -4) rs 64) ∧ NS [39, 46, 47] g g3 ∧ (Sh g → Sh g3) := by
    intro g h39 h45 h46 h47
    obtain ⟨g1, e1, j39, m1, t1⟩ : ∃ q : AH, q = uH g 39 (aO 5 [.int (nI m), .ref 40, .ref 41, .ref 42, .ref 43, .ref 44, .int pu, .int ye, .int (nI 0), .ref 45, .int (nI l), .int 0, .int 0, .ref 46, .ref 47, .ref 48, .ref 49, .ref 50, .long bm, .int kn, .int pr, .ref 51, .ref 52, .ref 53, .ref 54, .ref 55, .ref 56, .int ik, .ref 57, .ref 58, .ref 59, .ref 60]) ∧ q 39 = mO (nI m) pu ye (nI 0) (nI l) (nI 0) 0 bm kn pr ik ∧ NS [39] g q ∧ (Sh g → Sh q) := ⟨_, rfl, uH_s _ _ _, NS.r.u (by decide), fun z => sh_39 (ax := 0) (wr := 0) z⟩
    have lp := fun (Q : Option Value → AH → Prop) => M_town_fill (Q := Q) (x2 := none) (rs := rs) 64 0 g1 (by omega) j39 (by rw [fa_fill_0]; exact (m1 47 (by decide)).trans h47)
    obtain ⟨g2, e2, l47, m2, t2⟩ : ∃ q : AH, q = uH g1 47 (aI 64 (fa_fill (fun _ => -4) rs 64)) ∧ q 47 = aI 64 (fa_fill (fun _ => -4) rs 64) ∧ NS [47] g1 q ∧ (Sh g1 → Sh q) := ⟨_, rfl, uH_s _ _ _, NS.r.u (by decide), fun z => sh_47 z⟩
    rw [← e2] at lp
    have l39 := (m2 39 (by decide)).trans j39
    obtain ⟨g3, z, pm, k3, o5, o6, m3, t3⟩ := oM g2 none ⟨l39, (m2 45 (by decide)).trans ((m1 45 (by decide)).trans h45), rd, (m2 46 (by decide)).trans ((m1 46 (by decide)).trans h46), fun a ha => absurd ha (by omega)⟩
    refine ⟨g1, g2, g3, z, pm, e1, lp, l39, fun Q => ?_, o5, o6, (m3 47 (by decide)).trans l47, ((m1.m (by decide)).t (m2.m (by decide))).t (m3.m (by decide)), fun z => t3 (t2 (t1 z))⟩
    rw [← k3 Q, eM_readHouses]
    simp only [qM_readHouses_0, w0, w1, w2i, w2r, w3, w4, w5_0, w5_1, w5_2, w5_3, w5_4, w5_5, w5_6, w5_7, w5_8, w6_0, w6_1, w7_0, w7_1, w7_2, w7_3, w7_4, w7_5, w8_0, w8_1, w9_0, w9_1, w9_2, w10_0, w10_1, w10_2, w10_3, w10_4, w10_5, w11, w12_0, w12_1, w12_2, w12_3, w12_4, w12_5, w13_0, w13_1, w13_2, w13_3, w13_4, w13_5, w14, w15i, w15r, w16, w17, w18, w19i, w19z, w19l, w20, w21, w22, w23, w24, w25, w26, w27, w28_1, w28_2, w28_3, w28_4, w28_5, w28_6, w29, w30i, w30z, w31, w32, w33, w34, w35, w36, w37_1, w37_2, w37_3, w37_4, w37_5, w37_6, isO_O, set1_0, set1_1i, set1_1r, set1_1n, set1_1l, set1_s, set2_0, set2_1i, set2_1r, set2_1n, set2_1l, set2_s, ldv_i, ldv_l, ldv_r, ldv_s, ldi_i, ldi_s, fK_0, fK_s, gfc_O, fS_0, fS_s, uH_s, uH_n, uH_u, tl_s, tl_n, b1_0, b1_1, ite_true, ite_false, if_true, if_false, List.length_nil, List.length_cons, Nat.zero_le, Nat.zero_add, Nat.reduceAdd, Nat.reduceLeDiff, Nat.reduceLT, Nat.reduceEqDiff, Nat.reduceMul, Nat.add_left_cancel_iff, not_false_eq_true]
    rfl
  -- both, when the text has a fault
  have FF : ∀ (F at' ax' wr' : Int32) (h5 h6 : AH), (∀ Q, WpM 48 [.ref 0] h Q = Q (some (.int F)) h5) → h5 26 = aO 2 [.ref 27, .int (nI 0), .int at'] → NS (26 :: SC) h h5 → Sh h5 → (∀ Q, WpM 110 [.ref 39] h5 Q = Q (some (.int F)) h6) → h6 39 = mO (nI m) pu ye (nI 0) (nI 0) ax' wr' bm kn pr ik → NS [39, 46, 47] h5 h6 → Sh h6 → WpM 48 [.ref 0] h (fun v h1 => WpM 110 [.ref 39] h1 (fun w h2 => (∃ x : Int32, v = some (.int x) ∧ w = some (.int x)) ∧ RR h2)) := by
    intro F at' ax' wr' h5 h6 kC q26 nC sC kM q39 nM sM
    rw [kC, kM]
    exact ⟨⟨_, rfl, rfl⟩, RR_taped hR0 sM ((nC.m (by decide)).t (nM.m (by decide))) c39 q39 ((nM 26 (by decide)).trans q26)⟩
  have p100 : pos ≤ 100 := by omega
  by_cases st0 : st = 0
  rotate_left
  · -- a fault in the houses
    have hF := F_neg p100
    simp only [if_neg st0] at kR
    have kT : ∀ Q, WpM 15 [.ref 26, .ref 15] h2 Q = Q (some (.int (-20 - nI pos))) h4 := fun Q => by
      rw [eP_readTown]
      simp only [qP_readTown_0, jP_readTown_0, qP_readTown_42, jP_readTown_42, qP_readTown_53, jP_readTown_53, qP_readTown_54, jP_readTown_54, w0, w1, w2i, w2r, w3, w4, w5_0, w5_1, w5_2, w5_3, w5_4, w5_5, w5_6, w5_7, w5_8, w6_0, w6_1, w7_0, w7_1, w7_2, w7_3, w7_4, w7_5, w8_0, w8_1, w9_0, w9_1, w9_2, w10_0, w10_1, w10_2, w10_3, w10_4, w10_5, w11, w12_0, w12_1, w12_2, w12_3, w12_4, w12_5, w13_0, w13_1, w13_2, w13_3, w13_4, w13_5, w14, w15i, w15r, w16, w17, w18, w19i, w19z, w19l, w20, w21, w22, w23, w24, w25, w26, w27, w28_1, w28_2, w28_3, w28_4, w28_5, w28_6, w29, w30i, w30z, w31, w32, w33, w34, w35, w36, w37_1, w37_2, w37_3, w37_4, w37_5, w37_6, isO_O, set1_0, set1_1i, set1_1r, set1_1n, set1_1l, set1_s, set2_0, set2_1i, set2_1r, set2_1n, set2_1l, set2_s, ldv_i, ldv_l, ldv_r, ldv_s, ldi_i, ldi_s, fK_0, fK_s, gfc_O, fS_0, fS_s, uH_s, uH_n, uH_u, tl_s, tl_n, b1_0, b1_1, ite_true, ite_false, if_true, if_false, List.length_nil, List.length_cons, Nat.zero_le, Nat.zero_add, Nat.reduceAdd, Nat.reduceLeDiff, Nat.reduceLT, Nat.reduceEqDiff, Nat.reduceMul, Nat.add_left_cancel_iff, not_false_eq_true, i10, Bool.false_eq_true, z01, ne_eq, not_true_eq_false, not_false_eq_true, or_self, true_or, or_true, false_or, or_false, e26, pfc_2, ← q3, g26, kR, hF.1]
    obtain ⟨h5, kC, q26, nC, sC⟩ := CF _ _ h4 hF.2 kT i26 n34 (fun z => s4 (s3 z))
    obtain ⟨g1, g2, g3, z, pm, e1, lp, l39, k3, o5, o6, l47, m3, t3⟩ := MP h5 ((nC 39 (by decide)).trans c39) ((nC 45 (by decide)).trans c45) ((nC 46 (by decide)).trans c46) ((nC 47 (by decide)).trans c47)
    have f39 := (nC 39 (by decide)).trans c39
    by_cases st1 : st = 1
    · obtain ⟨g4, k4', m39, n4', s4'⟩ := haW (c := 59) (o5 st1)
      refine FF (-20 - nI pos) _ _ _ h5 (uH g4 39 (mO (nI m) pu ye (nI 0) (nI 0) (nI pos) 1 bm kn pr ik)) kC q26 nC (sC hS) (fun Q => ?_) (uH_s _ _ _) ((m3.t (n4'.m (by decide))).t (NS.r.u (by decide))) (sh_39 (s4' (t3 (sC hS))))
      rw [← M_fail (x1 := some (.int z)) (x2 := none) (Q := Q) m39, eM_town]
      simp only [qM_town_0, jM_town_0, w0, w1, w2i, w2r, w3, w4, w5_0, w5_1, w5_2, w5_3, w5_4, w5_5, w5_6, w5_7, w5_8, w6_0, w6_1, w7_0, w7_1, w7_2, w7_3, w7_4, w7_5, w8_0, w8_1, w9_0, w9_1, w9_2, w10_0, w10_1, w10_2, w10_3, w10_4, w10_5, w11, w12_0, w12_1, w12_2, w12_3, w12_4, w12_5, w13_0, w13_1, w13_2, w13_3, w13_4, w13_5, w14, w15i, w15r, w16, w17, w18, w19i, w19z, w19l, w20, w21, w22, w23, w24, w25, w26, w27, w28_1, w28_2, w28_3, w28_4, w28_5, w28_6, w29, w30i, w30z, w31, w32, w33, w34, w35, w36, w37_1, w37_2, w37_3, w37_4, w37_5, w37_6, isO_O, set1_0, set1_1i, set1_1r, set1_1n, set1_1l, set1_s, set2_0, set2_1i, set2_1r, set2_1n, set2_1l, set2_s, ldv_i, ldv_l, ldv_r, ldv_s, ldi_i, ldi_s, fK_0, fK_s, gfc_O, fS_0, fS_s, uH_s, uH_n, uH_u, tl_s, tl_n, b1_0, b1_1, ite_true, ite_false, if_true, if_false, List.length_nil, List.length_cons, Nat.zero_le, Nat.zero_add, Nat.reduceAdd, Nat.reduceLeDiff, Nat.reduceLT, Nat.reduceEqDiff, Nat.reduceMul, Nat.add_left_cancel_iff, not_false_eq_true, i10, Bool.false_eq_true, z01, ne_eq, not_true_eq_false, not_false_eq_true, or_self, true_or, or_true, false_or, or_false, f39, pfc_O, ← e1, lp]
      rw [qM_town_32]
      simp only [qM_town_51, jM_town_51, qM_town_66, jM_town_66, jM_town_71, w0, w1, w2i, w2r, w3, w4, w5_0, w5_1, w5_2, w5_3, w5_4, w5_5, w5_6, w5_7, w5_8, w6_0, w6_1, w7_0, w7_1, w7_2, w7_3, w7_4, w7_5, w8_0, w8_1, w9_0, w9_1, w9_2, w10_0, w10_1, w10_2, w10_3, w10_4, w10_5, w11, w12_0, w12_1, w12_2, w12_3, w12_4, w12_5, w13_0, w13_1, w13_2, w13_3, w13_4, w13_5, w14, w15i, w15r, w16, w17, w18, w19i, w19z, w19l, w20, w21, w22, w23, w24, w25, w26, w27, w28_1, w28_2, w28_3, w28_4, w28_5, w28_6, w29, w30i, w30z, w31, w32, w33, w34, w35, w36, w37_1, w37_2, w37_3, w37_4, w37_5, w37_6, isO_O, set1_0, set1_1i, set1_1r, set1_1n, set1_1l, set1_s, set2_0, set2_1i, set2_1r, set2_1n, set2_1l, set2_s, ldv_i, ldv_l, ldv_r, ldv_s, ldi_i, ldi_s, fK_0, fK_s, gfc_O, fS_0, fS_s, uH_s, uH_n, uH_u, tl_s, tl_n, b1_0, b1_1, ite_true, ite_false, if_true, if_false, List.length_nil, List.length_cons, Nat.zero_le, Nat.zero_add, Nat.reduceAdd, Nat.reduceLeDiff, Nat.reduceLT, Nat.reduceEqDiff, Nat.reduceMul, Nat.add_left_cancel_iff, not_false_eq_true, i10, Bool.false_eq_true, z01, ne_eq, not_true_eq_false, not_false_eq_true, or_self, true_or, or_true, false_or, or_false, l39, k3, o5 st1, k4', m39]
    · obtain ⟨rfl, pm1, pm2, hm3⟩ := o6 st1
      have st2 : st = 2 := by omega
      obtain ⟨pl, p59⟩ := o3 st2
      obtain ⟨f39', f45', -⟩ := hm3
      obtain ⟨g4, k4', m39, n4', s4'⟩ := haE0 (c := 59) hT htp (by decide) pm1 f39' f45' (by rw [pm2]; exact fun z => p59 z.2)
      rw [pm2] at m39
      rw [show nI 59 = 59 from rfl] at k4'
      obtain ⟨g5, k5', r39, n5', s5'⟩ := heE hT htp o1 m39 ((n4' 45 (by decide)).trans f45')
      have sid : sk tb l pos = pos := by rw [← pm2]; exact sk_id pm1
      rw [sid] at k5' r39
      have tr := hT.2 pos pl
      have sgm : ¬ sgM tb l pos = 0 := by
        unfold sgM
        rw [if_pos pl, nI_z (by omega)]
        omega
      refine FF (-20 - nI pos) _ _ _ h5 (uH g5 39 (mO (nI m) pu ye (nI 0) (nI 0) (nI pos) 1 bm kn pr ik)) kC q26 nC (sC hS) (fun Q => ?_) (uH_s _ _ _) (((m3.t (n4'.m (by decide))).t (n5'.m (by decide))).t (NS.r.u (by decide))) (sh_39 (s5' (s4' (t3 (sC hS)))))
      rw [← M_fail (x1 := some (.int (nI n'))) (x2 := none) (Q := Q) r39, eM_town]
      simp only [qM_town_0, jM_town_0, w0, w1, w2i, w2r, w3, w4, w5_0, w5_1, w5_2, w5_3, w5_4, w5_5, w5_6, w5_7, w5_8, w6_0, w6_1, w7_0, w7_1, w7_2, w7_3, w7_4, w7_5, w8_0, w8_1, w9_0, w9_1, w9_2, w10_0, w10_1, w10_2, w10_3, w10_4, w10_5, w11, w12_0, w12_1, w12_2, w12_3, w12_4, w12_5, w13_0, w13_1, w13_2, w13_3, w13_4, w13_5, w14, w15i, w15r, w16, w17, w18, w19i, w19z, w19l, w20, w21, w22, w23, w24, w25, w26, w27, w28_1, w28_2, w28_3, w28_4, w28_5, w28_6, w29, w30i, w30z, w31, w32, w33, w34, w35, w36, w37_1, w37_2, w37_3, w37_4, w37_5, w37_6, isO_O, set1_0, set1_1i, set1_1r, set1_1n, set1_1l, set1_s, set2_0, set2_1i, set2_1r, set2_1n, set2_1l, set2_s, ldv_i, ldv_l, ldv_r, ldv_s, ldi_i, ldi_s, fK_0, fK_s, gfc_O, fS_0, fS_s, uH_s, uH_n, uH_u, tl_s, tl_n, b1_0, b1_1, ite_true, ite_false, if_true, if_false, List.length_nil, List.length_cons, Nat.zero_le, Nat.zero_add, Nat.reduceAdd, Nat.reduceLeDiff, Nat.reduceLT, Nat.reduceEqDiff, Nat.reduceMul, Nat.add_left_cancel_iff, not_false_eq_true, i10, Bool.false_eq_true, z01, ne_eq, not_true_eq_false, not_false_eq_true, or_self, true_or, or_true, false_or, or_false, f39, pfc_O, ← e1, lp]
      rw [qM_town_32]
      simp only [qM_town_51, jM_town_51, qM_town_66, jM_town_66, jM_town_71, w0, w1, w2i, w2r, w3, w4, w5_0, w5_1, w5_2, w5_3, w5_4, w5_5, w5_6, w5_7, w5_8, w6_0, w6_1, w7_0, w7_1, w7_2, w7_3, w7_4, w7_5, w8_0, w8_1, w9_0, w9_1, w9_2, w10_0, w10_1, w10_2, w10_3, w10_4, w10_5, w11, w12_0, w12_1, w12_2, w12_3, w12_4, w12_5, w13_0, w13_1, w13_2, w13_3, w13_4, w13_5, w14, w15i, w15r, w16, w17, w18, w19i, w19z, w19l, w20, w21, w22, w23, w24, w25, w26, w27, w28_1, w28_2, w28_3, w28_4, w28_5, w28_6, w29, w30i, w30z, w31, w32, w33, w34, w35, w36, w37_1, w37_2, w37_3, w37_4, w37_5, w37_6, isO_O, set1_0, set1_1i, set1_1r, set1_1n, set1_1l, set1_s, set2_0, set2_1i, set2_1r, set2_1n, set2_1l, set2_s, ldv_i, ldv_l, ldv_r, ldv_s, ldi_i, ldi_s, fK_0, fK_s, gfc_O, fS_0, fS_s, uH_s, uH_n, uH_u, tl_s, tl_n, b1_0, b1_1, ite_true, ite_false, if_true, if_false, List.length_nil, List.length_cons, Nat.zero_le, Nat.zero_add, Nat.reduceAdd, Nat.reduceLeDiff, Nat.reduceLT, Nat.reduceEqDiff, Nat.reduceMul, Nat.add_left_cancel_iff, not_false_eq_true, i10, Bool.false_eq_true, z01, ne_eq, not_true_eq_false, not_false_eq_true, or_self, true_or, or_true, false_or, or_false, l39, k3, f39', k4', m39, k5', sgm]
  -- the houses are right
  simp only [if_pos st0] at kR
  have st1 : ¬ st = 1 := by omega
  obtain ⟨pq, p1, p8, pA⟩ := o2 st0
  have hc4' := hc4 st0
  obtain ⟨i15, ⟨ki4, as4, ow4, ca4, i16, i17, i18, i19, hk4⟩, -, i27⟩ := hc4'
  have i20 : h4 20 = aI 64 (clF (va_cpy sh sh3 0 0 64) 64) := (n4 20 (by decide)).trans ((n3 20 (by decide)).trans e20)
  -- both, when the text is a town
  have GG : ∀ (at' ax' : Int32) (T : Int64) (sh4 rs4 ki4 as4 ow4 ca4 kiN asN owN caN shN : Nat → Int32) (h5 h6 : AH), IV n' T sh4 rs4 → (∀ a, a < n' → ki4 a = K' a ∧ as4 a = A' a ∧ ow4 a = 0 ∧ ca4 a = 99) → (∀ Q, WpM 48 [.ref 0] h Q = Q (some (.int (nI n'))) h5) → h5 26 = aO 2 [.ref 27, .int (nI 0), .int at'] → h5 1 = tO 1 (nI n') pu ye → h5 2 = aI 8 (va_cpy ki4 ki 0 0 8) → h5 3 = aI 8 (va_cpy as4 as 0 0 8) → h5 4 = aI 8 (va_cpy ow4 ow 0 0 8) → h5 5 = aI 8 (va_cpy ca4 ca 0 0 8) → h5 6 = aI 64 (va_cpy sh4 sh 0 0 64) → NS ([1, 2, 3, 4, 5, 6, 26] ++ SC) h h5 → Sh h5 → (∀ Q, WpM 110 [.ref 39] h5 Q = Q (some (.int (nI n'))) h6) → h6 39 = mO (nI n') pu ye (nI 0) (nI 0) ax' 0 bm kn pr ik → h6 40 = aI 8 kiN → h6 41 = aI 8 asN → h6 42 = aI 8 owN → h6 43 = aI 8 caN → h6 44 = aI 64 shN → (∀ a, a < n' → kiN a = K' a ∧ asN a = A' a ∧ owN a = 0 ∧ caN a = 99) → (∀ a c, a < n' → c < n' → shN (8 * a + c) = if rs4 (8 * a + c) ≤ 0 then 0 else rs4 (8 * a + c)) → NS [39, 40, 41, 42, 43, 44, 46, 47] h5 h6 → Sh h6 → WpM 48 [.ref 0] h (fun v h1 => WpM 110 [.ref 39] h1 (fun w h2 => (∃ x : Int32, v = some (.int x) ∧ w = some (.int x)) ∧ RR h2)) := by
    intro at' ax' T sh4 rs4 ki4 as4 ow4 ca4 kiN asN owN caN shN h5 h6 hI hk4 kC q26 q1 q2 q3 q4 q5 q6 nC sC kM r39 r40 r41 r42 r43 r44 hkN hsN nM sM
    rw [kC, kM]
    refine ⟨⟨_, rfl, rfl⟩, sM, ?_, ?_, ?_, ?_⟩
    · refine V1_mk (m := n') (pu := pu) (ye := ye) (ki := va_cpy ki4 ki 0 0 8) (as := va_cpy as4 as 0 0 8) (ow := va_cpy ow4 ow 0 0 8) (ca := va_cpy ca4 ca 0 0 8) (sh := va_cpy sh4 sh 0 0 64) (kiM := kiN) (asM := asN) (owM := owN) (caM := caN) (shM := shN) ?_ ((nM 1 (by decide)).trans q1) ((nM 2 (by decide)).trans q2) ((nM 3 (by decide)).trans q3) ((nM 4 (by decide)).trans q4) ((nM 5 (by decide)).trans q5) ((nM 6 (by decide)).trans q6) r39 r40 r41 r42 r43 r44
      refine ⟨p8, hRl.2.1, hRl.2.2.1, fun a c ha hc => ?_, fun a ha => ?_, fun a c ha hc => ?_⟩
      · rw [cpy64 (by omega), cpy64 (by omega)]
        refine ⟨?_, (hI.2 a c ha hc).2, fun z => ?_⟩
        · rcases hI.1 a c ha hc with ⟨-, w, -⟩ | ⟨x, w0', -, w, -⟩
          · rw [w]; decide
          · rw [w, nI_toInt (by omega)]; omega
        · rcases hI.1 a c ha hc with ⟨-, w, -⟩ | ⟨x, w0', -, w, -, w2, w3, w4⟩
          · exact w
          · omega
      · rw [cpy8 (by omega), cpy8 (by omega), cpy8 (by omega), cpy8 (by omega)]
        obtain ⟨a1, a2, a3, a4⟩ := hkN a ha
        obtain ⟨b1, b2, b3, b4⟩ := hk4 a ha
        rw [a1, a2, a3, a4, b1, b2, b3, b4]
        exact ⟨rfl, rfl, rfl, rfl, pA a ha, by decide⟩
      · rw [cpy64 (by omega), hsN a c ha hc]
        rcases hI.1 a c (by omega) (by omega) with ⟨w1, w2, -⟩ | ⟨x, w0', w1, w2, -⟩
        · rw [w1, w2, if_pos (by decide)]
        · rw [w1, w2]
          by_cases z : nI x ≤ 0
          · rw [if_pos z]
            rw [fa_le, nI_toInt (by omega)] at z
            have : (0 : Int32).toInt = 0 := rfl
            have x0 : x = 0 := by omega
            rw [x0]; rfl
          · rw [if_neg z]
    · exact V2_ag (fun q hq => (nM q ((show ∀ q, q ∈ L2 → q ∉ [39, 40, 41, 42, 43, 44, 46, 47] by decide) q hq)).trans (nC q ((show ∀ q, q ∈ L2 → q ∉ [1, 2, 3, 4, 5, 6, 26] ++ SC by decide) q hq))) (by rw [c39, r39]; rfl) hV2
    · unfold V3
      rw [(nM 26 (by decide)).trans q26, r39]
      exact ⟨0, rfl, rfl, by decide, fun k hk => absurd hk (by omega)⟩
    · exact V4_ag (fun q hq => (nM q ((show ∀ q, q ∈ L4 → q ∉ [39, 40, 41, 42, 43, 44, 46, 47] by decide) q hq)).trans (nC q ((show ∀ q, q ∈ L4 → q ∉ [1, 2, 3, 4, 5, 6, 26] ++ SC by decide) q hq))) hV4
  have rs0 : ∀ k, k < 64 → fa_fill (fun _ => (-4 : Int32)) rs 64 k = -4 := fun k hk => fa_fill_in hk
  have sh0 : ∀ k, k < 64 → clF (va_cpy sh sh3 0 0 64) 64 k = 0 := fun k hk => by rw [clF_val, if_pos hk]
  have hI0 : IV n' 0 (clF (va_cpy sh sh3 0 0 64) 64) (fa_fill (fun _ => (-4 : Int32)) rs 64) := IV_0 sh0 rs0
  by_cases pl : pos < l
  rotate_left
  · -- no shares
    have pe : pos = l := by omega
    have hge : nI l ≤ nI pos := by rw [pe]; exact nI_le (Nat.le_refl l) (by omega)
    have kT : ∀ Q, WpM 15 [.ref 26, .ref 15] h2 Q = Q (some (.int (nI n'))) h4 := fun Q => by
      rw [eP_readTown]
      simp only [qP_readTown_0, jP_readTown_0, qP_readTown_42, jP_readTown_42, qP_readTown_53, jP_readTown_53, qP_readTown_54, jP_readTown_54, w0, w1, w2i, w2r, w3, w4, w5_0, w5_1, w5_2, w5_3, w5_4, w5_5, w5_6, w5_7, w5_8, w6_0, w6_1, w7_0, w7_1, w7_2, w7_3, w7_4, w7_5, w8_0, w8_1, w9_0, w9_1, w9_2, w10_0, w10_1, w10_2, w10_3, w10_4, w10_5, w11, w12_0, w12_1, w12_2, w12_3, w12_4, w12_5, w13_0, w13_1, w13_2, w13_3, w13_4, w13_5, w14, w15i, w15r, w16, w17, w18, w19i, w19z, w19l, w20, w21, w22, w23, w24, w25, w26, w27, w28_1, w28_2, w28_3, w28_4, w28_5, w28_6, w29, w30i, w30z, w31, w32, w33, w34, w35, w36, w37_1, w37_2, w37_3, w37_4, w37_5, w37_6, isO_O, set1_0, set1_1i, set1_1r, set1_1n, set1_1l, set1_s, set2_0, set2_1i, set2_1r, set2_1n, set2_1l, set2_s, ldv_i, ldv_l, ldv_r, ldv_s, ldi_i, ldi_s, fK_0, fK_s, gfc_O, fS_0, fS_s, uH_s, uH_n, uH_u, tl_s, tl_n, b1_0, b1_1, ite_true, ite_false, if_true, if_false, List.length_nil, List.length_cons, Nat.zero_le, Nat.zero_add, Nat.reduceAdd, Nat.reduceLeDiff, Nat.reduceLT, Nat.reduceEqDiff, Nat.reduceMul, Nat.add_left_cancel_iff, not_false_eq_true, i10, Bool.false_eq_true, z01, ne_eq, not_true_eq_false, not_false_eq_true, or_self, true_or, or_true, false_or, or_false, e26, pfc_2, ← q3, g26, kR, i26, hge, i15]
    obtain ⟨h5, kC, q26, q1, q2, q3', q4, q5, q6, nC, sC⟩ := CG n' _ h4 ki4 as4 ow4 ca4 _ p1 p8 kT i26 i15 i16 i17 i18 i19 i20 n34 (fun z => s4 (s3 z))
    have f39 := (nC 39 (by decide)).trans c39
    obtain ⟨g1, g2, g3, z, pm, e1, lp, l39, k3, o5, o6, l47, m3, t3⟩ := MP h5 f39 ((nC 45 (by decide)).trans c45) ((nC 46 (by decide)).trans c46) ((nC 47 (by decide)).trans c47)
    obtain ⟨rfl, pm1, pm2, hm3⟩ := o6 st1
    obtain ⟨f39', f45', rd', f46', hr'⟩ := hm3
    obtain ⟨g4, k4', m39, n4', s4'⟩ := haE0 (c := 59) hT htp (by decide) pm1 f39' f45' (by rw [pm2]; exact fun z => pl z.1)
    rw [pm2] at m39
    rw [show nI 59 = 59 from rfl] at k4'
    obtain ⟨g5, k5', r39, n5', s5'⟩ := heE hT htp o1 m39 ((n4' 45 (by decide)).trans f45')
    have sid : sk tb l pos = pos := by rw [← pm2]; exact sk_id pm1
    rw [sid] at k5' r39
    have sgm : sgM tb l pos = 0 := if_neg pl
    have n35 : NS [39, 46, 47] h5 g5 := (m3.t (n4'.m (by decide))).t (n5'.m (by decide))
    have n45 : NS [39] g3 g5 := n4'.t n5'
    obtain ⟨g6, kiN, asN, owN, caN, shN, k6, u39, u40, u41, u42, u43, u44, hkN, hsN, n6, s6⟩ := M_good (x2 := none) p8 hr' r39 ((n45 46 (by decide)).trans f46') ((n45 47 (by decide)).trans l47) ((n35 40 (by decide)).trans ((nC 40 (by decide)).trans c40)) ((n35 41 (by decide)).trans ((nC 41 (by decide)).trans c41)) ((n35 42 (by decide)).trans ((nC 42 (by decide)).trans c42)) ((n35 43 (by decide)).trans ((nC 43 (by decide)).trans c43)) ((n35 44 (by decide)).trans ((nC 44 (by decide)).trans c44))
    refine GG _ _ 0 _ _ ki4 as4 ow4 ca4 kiN asN owN caN shN h5 g6 hI0 hk4 kC q26 q1 q2 q3' q4 q5 q6 nC (sC hS) (fun Q => ?_) u39 u40 u41 u42 u43 u44 hkN hsN ((n35.m (by decide)).t (n6.m (by decide))) (s6 (s5' (s4' (t3 (sC hS)))))
    rw [← k6 Q, eM_town]
    simp only [qM_town_0, jM_town_0, w0, w1, w2i, w2r, w3, w4, w5_0, w5_1, w5_2, w5_3, w5_4, w5_5, w5_6, w5_7, w5_8, w6_0, w6_1, w7_0, w7_1, w7_2, w7_3, w7_4, w7_5, w8_0, w8_1, w9_0, w9_1, w9_2, w10_0, w10_1, w10_2, w10_3, w10_4, w10_5, w11, w12_0, w12_1, w12_2, w12_3, w12_4, w12_5, w13_0, w13_1, w13_2, w13_3, w13_4, w13_5, w14, w15i, w15r, w16, w17, w18, w19i, w19z, w19l, w20, w21, w22, w23, w24, w25, w26, w27, w28_1, w28_2, w28_3, w28_4, w28_5, w28_6, w29, w30i, w30z, w31, w32, w33, w34, w35, w36, w37_1, w37_2, w37_3, w37_4, w37_5, w37_6, isO_O, set1_0, set1_1i, set1_1r, set1_1n, set1_1l, set1_s, set2_0, set2_1i, set2_1r, set2_1n, set2_1l, set2_s, ldv_i, ldv_l, ldv_r, ldv_s, ldi_i, ldi_s, fK_0, fK_s, gfc_O, fS_0, fS_s, uH_s, uH_n, uH_u, tl_s, tl_n, b1_0, b1_1, ite_true, ite_false, if_true, if_false, List.length_nil, List.length_cons, Nat.zero_le, Nat.zero_add, Nat.reduceAdd, Nat.reduceLeDiff, Nat.reduceLT, Nat.reduceEqDiff, Nat.reduceMul, Nat.add_left_cancel_iff, not_false_eq_true, i10, Bool.false_eq_true, z01, ne_eq, not_true_eq_false, not_false_eq_true, or_self, true_or, or_true, false_or, or_false, f39, pfc_O, ← e1, lp]
    rw [qM_town_32]
    simp only [qM_town_51, jM_town_51, qM_town_70, jM_town_70, jM_town_71, w0, w1, w2i, w2r, w3, w4, w5_0, w5_1, w5_2, w5_3, w5_4, w5_5, w5_6, w5_7, w5_8, w6_0, w6_1, w7_0, w7_1, w7_2, w7_3, w7_4, w7_5, w8_0, w8_1, w9_0, w9_1, w9_2, w10_0, w10_1, w10_2, w10_3, w10_4, w10_5, w11, w12_0, w12_1, w12_2, w12_3, w12_4, w12_5, w13_0, w13_1, w13_2, w13_3, w13_4, w13_5, w14, w15i, w15r, w16, w17, w18, w19i, w19z, w19l, w20, w21, w22, w23, w24, w25, w26, w27, w28_1, w28_2, w28_3, w28_4, w28_5, w28_6, w29, w30i, w30z, w31, w32, w33, w34, w35, w36, w37_1, w37_2, w37_3, w37_4, w37_5, w37_6, isO_O, set1_0, set1_1i, set1_1r, set1_1n, set1_1l, set1_s, set2_0, set2_1i, set2_1r, set2_1n, set2_1l, set2_s, ldv_i, ldv_l, ldv_r, ldv_s, ldi_i, ldi_s, fK_0, fK_s, gfc_O, fS_0, fS_s, uH_s, uH_n, uH_u, tl_s, tl_n, b1_0, b1_1, ite_true, ite_false, if_true, if_false, List.length_nil, List.length_cons, Nat.zero_le, Nat.zero_add, Nat.reduceAdd, Nat.reduceLeDiff, Nat.reduceLT, Nat.reduceEqDiff, Nat.reduceMul, Nat.add_left_cancel_iff, not_false_eq_true, i10, Bool.false_eq_true, z01, ne_eq, not_true_eq_false, not_false_eq_true, or_self, true_or, or_true, false_or, or_false, l39, k3, f39', k4', m39, k5', sgm]
  -- shares
  have p59 : tb pos = 59 := by omega
  have hlt : ¬ nI l ≤ nI pos := nI_ge pl (by omega)
  obtain ⟨h5', q5', j26, n5a, s5a⟩ := incE i26
  obtain ⟨st2, pos2, T2, sh2, rs2, ww1, ww2, ww3, ww4, wC, wM⟩ := shares (pu3 := pu) (ye3 := ye) (ho := nI m) (pu := pu) (ye := ye) (bo := nI 0) (be := bm) (kn := kn) (pr := pr) (im := ik) hT hbt htp ⟨p1, p8⟩ 11 0 (pos + 1) 0 _ _ (by omega) (by omega) hI0
  obtain ⟨h6', kk6, hs6, v26, nn6, ss6⟩ := wC h5' none none none none ⟨(n5a 15 (by decide)).trans i15, (n5a 20 (by decide)).trans i20, j26, (n5a 27 (by decide)).trans i27⟩
  have kS : ∀ Q, WpM 17 [.ref 26, .ref 15] h5' Q = Q (some (.int (if st2 = 0 then 0 else -20 - nI pos2))) h6' := fun Q => by
    rw [← kk6 Q, eP_readShares]
    simp only [qP_readShares_0, w0, w1, w2i, w2r, w3, w4, w5_0, w5_1, w5_2, w5_3, w5_4, w5_5, w5_6, w5_7, w5_8, w6_0, w6_1, w7_0, w7_1, w7_2, w7_3, w7_4, w7_5, w8_0, w8_1, w9_0, w9_1, w9_2, w10_0, w10_1, w10_2, w10_3, w10_4, w10_5, w11, w12_0, w12_1, w12_2, w12_3, w12_4, w12_5, w13_0, w13_1, w13_2, w13_3, w13_4, w13_5, w14, w15i, w15r, w16, w17, w18, w19i, w19z, w19l, w20, w21, w22, w23, w24, w25, w26, w27, w28_1, w28_2, w28_3, w28_4, w28_5, w28_6, w29, w30i, w30z, w31, w32, w33, w34, w35, w36, w37_1, w37_2, w37_3, w37_4, w37_5, w37_6, isO_O, set1_0, set1_1i, set1_1r, set1_1n, set1_1l, set1_s, set2_0, set2_1i, set2_1r, set2_1n, set2_1l, set2_s, ldv_i, ldv_l, ldv_r, ldv_s, ldi_i, ldi_s, fK_0, fK_s, gfc_O, fS_0, fS_s, uH_s, uH_n, uH_u, tl_s, tl_n, b1_0, b1_1, ite_true, ite_false, if_true, if_false, List.length_nil, List.length_cons, Nat.zero_le, Nat.zero_add, Nat.reduceAdd, Nat.reduceLeDiff, Nat.reduceLT, Nat.reduceEqDiff, Nat.reduceMul, Nat.add_left_cancel_iff, not_false_eq_true]
    rfl
  have n26 : NS [15, 16, 17, 18, 19, 20, 26] h2 h6' := (n34.t (n5a.m (by decide))).t (nn6.m (by decide))
  have n46 : NS [20, 26] h4 h6' := (n5a.m (by decide)).t nn6
  have w100 : pos2 ≤ 100 := by omega
  -- the reference up to behind the shares
  have MQ : ∀ g3 : AH, ∀ pm : Nat, pm ≤ l → sk tb l pm = pos → HM l tp (nI m) pu ye (nI 0) bm kn pr ik n' pm K' A' g3 → g3 47 = aI 64 (fa_fill (fun _ => -4) rs 64) → ∃ (g4 g5 : AH) (pm2 : Nat), (∀ Q, WpM 104 [.ref 39, .int 59] g3 Q = Q (some (.int 1)) g4) ∧ g4 39 = mO (nI m) pu ye (nI 0) (nI l) (nI (pos + 1)) 0 bm kn pr ik ∧ (∀ Q, WpM 109 [.ref 39, .int (nI n')] g4 Q = Q none g5) ∧ (st2 = 1 → g5 39 = mO (nI m) pu ye (nI 0) (nI l) (nI pos2) 1 bm kn pr ik) ∧ (¬ st2 = 1 → pm2 ≤ l ∧ sk tb l pm2 = pos2 ∧ HT l tp (nI m) pu ye (nI 0) bm kn pr ik pm2 rs2 g5) ∧ NS [39, 47] g3 g5 ∧ (Sh g3 → Sh g5) := by
    intro g3 pm pm1 pm2 hm3 l47
    obtain ⟨f39', f45', rd', f46', hr'⟩ := hm3
    obtain ⟨g4, k4', m39, n4', s4'⟩ := haE (c := 59) hT htp (by decide) pm1 f39' f45' (by rw [pm2]; exact ⟨pl, p59⟩)
    rw [pm2] at m39
    rw [show nI 59 = 59 from rfl] at k4'
    obtain ⟨g5, pmx, k5', o5, o6, n5', s5'⟩ := wM g4 none none none none ⟨m39, (n4' 45 (by decide)).trans f45', (n4' 47 (by decide)).trans l47⟩
    refine ⟨g4, g5, pmx, k4', m39, fun Q => ?_, o5, o6, (n4'.m (by decide)).t n5', fun z => s5' (s4' z)⟩
    rw [← k5' Q, eM_readPairs]
    simp only [qM_readPairs_0, w0, w1, w2i, w2r, w3, w4, w5_0, w5_1, w5_2, w5_3, w5_4, w5_5, w5_6, w5_7, w5_8, w6_0, w6_1, w7_0, w7_1, w7_2, w7_3, w7_4, w7_5, w8_0, w8_1, w9_0, w9_1, w9_2, w10_0, w10_1, w10_2, w10_3, w10_4, w10_5, w11, w12_0, w12_1, w12_2, w12_3, w12_4, w12_5, w13_0, w13_1, w13_2, w13_3, w13_4, w13_5, w14, w15i, w15r, w16, w17, w18, w19i, w19z, w19l, w20, w21, w22, w23, w24, w25, w26, w27, w28_1, w28_2, w28_3, w28_4, w28_5, w28_6, w29, w30i, w30z, w31, w32, w33, w34, w35, w36, w37_1, w37_2, w37_3, w37_4, w37_5, w37_6, isO_O, set1_0, set1_1i, set1_1r, set1_1n, set1_1l, set1_s, set2_0, set2_1i, set2_1r, set2_1n, set2_1l, set2_s, ldv_i, ldv_l, ldv_r, ldv_s, ldi_i, ldi_s, fK_0, fK_s, gfc_O, fS_0, fS_s, uH_s, uH_n, uH_u, tl_s, tl_n, b1_0, b1_1, ite_true, ite_false, if_true, if_false, List.length_nil, List.length_cons, Nat.zero_le, Nat.zero_add, Nat.reduceAdd, Nat.reduceLeDiff, Nat.reduceLT, Nat.reduceEqDiff, Nat.reduceMul, Nat.add_left_cancel_iff, not_false_eq_true]
    rfl
  by_cases t0 : st2 = 0
  rotate_left
  · -- a fault in the shares
    have hF := F_neg w100
    simp only [if_neg t0] at kS
    have kT : ∀ Q, WpM 15 [.ref 26, .ref 15] h2 Q = Q (some (.int (-20 - nI pos2))) h6' := fun Q => by
      rw [eP_readTown]
      simp only [qP_readTown_0, jP_readTown_0, qP_readTown_42, jP_readTown_42, qP_readTown_53, jP_readTown_53, qP_readTown_54, jP_readTown_54, w0, w1, w2i, w2r, w3, w4, w5_0, w5_1, w5_2, w5_3, w5_4, w5_5, w5_6, w5_7, w5_8, w6_0, w6_1, w7_0, w7_1, w7_2, w7_3, w7_4, w7_5, w8_0, w8_1, w9_0, w9_1, w9_2, w10_0, w10_1, w10_2, w10_3, w10_4, w10_5, w11, w12_0, w12_1, w12_2, w12_3, w12_4, w12_5, w13_0, w13_1, w13_2, w13_3, w13_4, w13_5, w14, w15i, w15r, w16, w17, w18, w19i, w19z, w19l, w20, w21, w22, w23, w24, w25, w26, w27, w28_1, w28_2, w28_3, w28_4, w28_5, w28_6, w29, w30i, w30z, w31, w32, w33, w34, w35, w36, w37_1, w37_2, w37_3, w37_4, w37_5, w37_6, isO_O, set1_0, set1_1i, set1_1r, set1_1n, set1_1l, set1_s, set2_0, set2_1i, set2_1r, set2_1n, set2_1l, set2_s, ldv_i, ldv_l, ldv_r, ldv_s, ldi_i, ldi_s, fK_0, fK_s, gfc_O, fS_0, fS_s, uH_s, uH_n, uH_u, tl_s, tl_n, b1_0, b1_1, ite_true, ite_false, if_true, if_false, List.length_nil, List.length_cons, Nat.zero_le, Nat.zero_add, Nat.reduceAdd, Nat.reduceLeDiff, Nat.reduceLT, Nat.reduceEqDiff, Nat.reduceMul, Nat.add_left_cancel_iff, not_false_eq_true, i10, Bool.false_eq_true, z01, ne_eq, not_true_eq_false, not_false_eq_true, or_self, true_or, or_true, false_or, or_false, e26, pfc_2, ← q3, g26, kR, i26, hlt, nI_1, ← q5', j26, kS, hF.1]
    obtain ⟨h5, kC, q26, nC, sC⟩ := CF _ _ h6' hF.2 kT v26 n26 (fun z => ss6 (s5a (s4 (s3 z))))
    have f39 := (nC 39 (by decide)).trans c39
    obtain ⟨g1, g2, g3, z, pm, e1, lp, l39, k3, o5, o6, l47, m3, t3⟩ := MP h5 f39 ((nC 45 (by decide)).trans c45) ((nC 46 (by decide)).trans c46) ((nC 47 (by decide)).trans c47)
    obtain ⟨rfl, pm1, pm2, hm3⟩ := o6 st1
    have f39' := hm3.1
    obtain ⟨g4, g5, pmx, k4', m39, k5', x5, x6, n5', s5'⟩ := MQ g3 pm pm1 pm2 hm3 l47
    by_cases t1 : st2 = 1
    · have r39 := x5 t1
      refine FF (-20 - nI pos2) _ _ _ h5 (uH g5 39 (mO (nI m) pu ye (nI 0) (nI 0) (nI pos2) 1 bm kn pr ik)) kC q26 nC (sC hS) (fun Q => ?_) (uH_s _ _ _) ((m3.t (n5'.m (by decide))).t (NS.r.u (by decide))) (sh_39 (s5' (t3 (sC hS))))
      rw [← M_fail (x1 := some (.int (nI n'))) (x2 := none) (Q := Q) r39, eM_town]
      simp only [qM_town_0, jM_town_0, w0, w1, w2i, w2r, w3, w4, w5_0, w5_1, w5_2, w5_3, w5_4, w5_5, w5_6, w5_7, w5_8, w6_0, w6_1, w7_0, w7_1, w7_2, w7_3, w7_4, w7_5, w8_0, w8_1, w9_0, w9_1, w9_2, w10_0, w10_1, w10_2, w10_3, w10_4, w10_5, w11, w12_0, w12_1, w12_2, w12_3, w12_4, w12_5, w13_0, w13_1, w13_2, w13_3, w13_4, w13_5, w14, w15i, w15r, w16, w17, w18, w19i, w19z, w19l, w20, w21, w22, w23, w24, w25, w26, w27, w28_1, w28_2, w28_3, w28_4, w28_5, w28_6, w29, w30i, w30z, w31, w32, w33, w34, w35, w36, w37_1, w37_2, w37_3, w37_4, w37_5, w37_6, isO_O, set1_0, set1_1i, set1_1r, set1_1n, set1_1l, set1_s, set2_0, set2_1i, set2_1r, set2_1n, set2_1l, set2_s, ldv_i, ldv_l, ldv_r, ldv_s, ldi_i, ldi_s, fK_0, fK_s, gfc_O, fS_0, fS_s, uH_s, uH_n, uH_u, tl_s, tl_n, b1_0, b1_1, ite_true, ite_false, if_true, if_false, List.length_nil, List.length_cons, Nat.zero_le, Nat.zero_add, Nat.reduceAdd, Nat.reduceLeDiff, Nat.reduceLT, Nat.reduceEqDiff, Nat.reduceMul, Nat.add_left_cancel_iff, not_false_eq_true, i10, Bool.false_eq_true, z01, ne_eq, not_true_eq_false, not_false_eq_true, or_self, true_or, or_true, false_or, or_false, f39, pfc_O, ← e1, lp]
      rw [qM_town_32]
      simp only [qM_town_51, jM_town_51, qM_town_66, jM_town_66, jM_town_71, w0, w1, w2i, w2r, w3, w4, w5_0, w5_1, w5_2, w5_3, w5_4, w5_5, w5_6, w5_7, w5_8, w6_0, w6_1, w7_0, w7_1, w7_2, w7_3, w7_4, w7_5, w8_0, w8_1, w9_0, w9_1, w9_2, w10_0, w10_1, w10_2, w10_3, w10_4, w10_5, w11, w12_0, w12_1, w12_2, w12_3, w12_4, w12_5, w13_0, w13_1, w13_2, w13_3, w13_4, w13_5, w14, w15i, w15r, w16, w17, w18, w19i, w19z, w19l, w20, w21, w22, w23, w24, w25, w26, w27, w28_1, w28_2, w28_3, w28_4, w28_5, w28_6, w29, w30i, w30z, w31, w32, w33, w34, w35, w36, w37_1, w37_2, w37_3, w37_4, w37_5, w37_6, isO_O, set1_0, set1_1i, set1_1r, set1_1n, set1_1l, set1_s, set2_0, set2_1i, set2_1r, set2_1n, set2_1l, set2_s, ldv_i, ldv_l, ldv_r, ldv_s, ldi_i, ldi_s, fK_0, fK_s, gfc_O, fS_0, fS_s, uH_s, uH_n, uH_u, tl_s, tl_n, b1_0, b1_1, ite_true, ite_false, if_true, if_false, List.length_nil, List.length_cons, Nat.zero_le, Nat.zero_add, Nat.reduceAdd, Nat.reduceLeDiff, Nat.reduceLT, Nat.reduceEqDiff, Nat.reduceMul, Nat.add_left_cancel_iff, not_false_eq_true, i10, Bool.false_eq_true, z01, ne_eq, not_true_eq_false, not_false_eq_true, or_self, true_or, or_true, false_or, or_false, l39, k3, f39', k4', m39, k5', r39]
    · obtain ⟨y1, y2, y3⟩ := x6 t1
      obtain ⟨r39, r45, r47⟩ := y3
      have pl2 := ww3 (by omega)
      obtain ⟨g6, k6', u39, n6', s6'⟩ := heE hT htp y1 r39 r45
      rw [y2] at k6' u39
      have tr := hT.2 pos2 pl2
      have sgm : ¬ sgM tb l pos2 = 0 := by
        unfold sgM
        rw [if_pos pl2, nI_z (by omega)]
        omega
      refine FF (-20 - nI pos2) _ _ _ h5 (uH g6 39 (mO (nI m) pu ye (nI 0) (nI 0) (nI pos2) 1 bm kn pr ik)) kC q26 nC (sC hS) (fun Q => ?_) (uH_s _ _ _) (((m3.t (n5'.m (by decide))).t (n6'.m (by decide))).t (NS.r.u (by decide))) (sh_39 (s6' (s5' (t3 (sC hS)))))
      rw [← M_fail (x1 := some (.int (nI n'))) (x2 := none) (Q := Q) u39, eM_town]
      simp only [qM_town_0, jM_town_0, w0, w1, w2i, w2r, w3, w4, w5_0, w5_1, w5_2, w5_3, w5_4, w5_5, w5_6, w5_7, w5_8, w6_0, w6_1, w7_0, w7_1, w7_2, w7_3, w7_4, w7_5, w8_0, w8_1, w9_0, w9_1, w9_2, w10_0, w10_1, w10_2, w10_3, w10_4, w10_5, w11, w12_0, w12_1, w12_2, w12_3, w12_4, w12_5, w13_0, w13_1, w13_2, w13_3, w13_4, w13_5, w14, w15i, w15r, w16, w17, w18, w19i, w19z, w19l, w20, w21, w22, w23, w24, w25, w26, w27, w28_1, w28_2, w28_3, w28_4, w28_5, w28_6, w29, w30i, w30z, w31, w32, w33, w34, w35, w36, w37_1, w37_2, w37_3, w37_4, w37_5, w37_6, isO_O, set1_0, set1_1i, set1_1r, set1_1n, set1_1l, set1_s, set2_0, set2_1i, set2_1r, set2_1n, set2_1l, set2_s, ldv_i, ldv_l, ldv_r, ldv_s, ldi_i, ldi_s, fK_0, fK_s, gfc_O, fS_0, fS_s, uH_s, uH_n, uH_u, tl_s, tl_n, b1_0, b1_1, ite_true, ite_false, if_true, if_false, List.length_nil, List.length_cons, Nat.zero_le, Nat.zero_add, Nat.reduceAdd, Nat.reduceLeDiff, Nat.reduceLT, Nat.reduceEqDiff, Nat.reduceMul, Nat.add_left_cancel_iff, not_false_eq_true, i10, Bool.false_eq_true, z01, ne_eq, not_true_eq_false, not_false_eq_true, or_self, true_or, or_true, false_or, or_false, f39, pfc_O, ← e1, lp]
      rw [qM_town_32]
      simp only [qM_town_51, jM_town_51, qM_town_66, jM_town_66, jM_town_71, w0, w1, w2i, w2r, w3, w4, w5_0, w5_1, w5_2, w5_3, w5_4, w5_5, w5_6, w5_7, w5_8, w6_0, w6_1, w7_0, w7_1, w7_2, w7_3, w7_4, w7_5, w8_0, w8_1, w9_0, w9_1, w9_2, w10_0, w10_1, w10_2, w10_3, w10_4, w10_5, w11, w12_0, w12_1, w12_2, w12_3, w12_4, w12_5, w13_0, w13_1, w13_2, w13_3, w13_4, w13_5, w14, w15i, w15r, w16, w17, w18, w19i, w19z, w19l, w20, w21, w22, w23, w24, w25, w26, w27, w28_1, w28_2, w28_3, w28_4, w28_5, w28_6, w29, w30i, w30z, w31, w32, w33, w34, w35, w36, w37_1, w37_2, w37_3, w37_4, w37_5, w37_6, isO_O, set1_0, set1_1i, set1_1r, set1_1n, set1_1l, set1_s, set2_0, set2_1i, set2_1r, set2_1n, set2_1l, set2_s, ldv_i, ldv_l, ldv_r, ldv_s, ldi_i, ldi_s, fK_0, fK_s, gfc_O, fS_0, fS_s, uH_s, uH_n, uH_u, tl_s, tl_n, b1_0, b1_1, ite_true, ite_false, if_true, if_false, List.length_nil, List.length_cons, Nat.zero_le, Nat.zero_add, Nat.reduceAdd, Nat.reduceLeDiff, Nat.reduceLT, Nat.reduceEqDiff, Nat.reduceMul, Nat.add_left_cancel_iff, not_false_eq_true, i10, Bool.false_eq_true, z01, ne_eq, not_true_eq_false, not_false_eq_true, or_self, true_or, or_true, false_or, or_false, l39, k3, f39', k4', m39, k5', r39, k6', sgm]
  -- all is right
  simp only [if_pos t0] at kS
  obtain ⟨w2a, w2b⟩ := ww2 t0
  have t1 : ¬ st2 = 1 := by omega
  obtain ⟨v15, v20, -, v27⟩ := hs6 t0
  have kT : ∀ Q, WpM 15 [.ref 26, .ref 15] h2 Q = Q (some (.int (nI n'))) h6' := fun Q => by
    rw [eP_readTown]
    simp only [qP_readTown_0, jP_readTown_0, qP_readTown_42, jP_readTown_42, qP_readTown_53, jP_readTown_53, qP_readTown_54, jP_readTown_54, w0, w1, w2i, w2r, w3, w4, w5_0, w5_1, w5_2, w5_3, w5_4, w5_5, w5_6, w5_7, w5_8, w6_0, w6_1, w7_0, w7_1, w7_2, w7_3, w7_4, w7_5, w8_0, w8_1, w9_0, w9_1, w9_2, w10_0, w10_1, w10_2, w10_3, w10_4, w10_5, w11, w12_0, w12_1, w12_2, w12_3, w12_4, w12_5, w13_0, w13_1, w13_2, w13_3, w13_4, w13_5, w14, w15i, w15r, w16, w17, w18, w19i, w19z, w19l, w20, w21, w22, w23, w24, w25, w26, w27, w28_1, w28_2, w28_3, w28_4, w28_5, w28_6, w29, w30i, w30z, w31, w32, w33, w34, w35, w36, w37_1, w37_2, w37_3, w37_4, w37_5, w37_6, isO_O, set1_0, set1_1i, set1_1r, set1_1n, set1_1l, set1_s, set2_0, set2_1i, set2_1r, set2_1n, set2_1l, set2_s, ldv_i, ldv_l, ldv_r, ldv_s, ldi_i, ldi_s, fK_0, fK_s, gfc_O, fS_0, fS_s, uH_s, uH_n, uH_u, tl_s, tl_n, b1_0, b1_1, ite_true, ite_false, if_true, if_false, List.length_nil, List.length_cons, Nat.zero_le, Nat.zero_add, Nat.reduceAdd, Nat.reduceLeDiff, Nat.reduceLT, Nat.reduceEqDiff, Nat.reduceMul, Nat.add_left_cancel_iff, not_false_eq_true, i10, Bool.false_eq_true, z01, ne_eq, not_true_eq_false, not_false_eq_true, or_self, true_or, or_true, false_or, or_false, e26, pfc_2, ← q3, g26, kR, i26, hlt, nI_1, ← q5', j26, kS, v15]
  obtain ⟨h5, kC, q26, q1, q2, q3', q4, q5, q6, nC, sC⟩ := CG n' _ h6' ki4 as4 ow4 ca4 _ p1 p8 kT v26 v15 ((n46 16 (by decide)).trans i16) ((n46 17 (by decide)).trans i17) ((n46 18 (by decide)).trans i18) ((n46 19 (by decide)).trans i19) v20 n26 (fun z => ss6 (s5a (s4 (s3 z))))
  have f39 := (nC 39 (by decide)).trans c39
  obtain ⟨g1, g2, g3, z, pm, e1, lp, l39, k3, o5, o6, l47, m3, t3⟩ := MP h5 f39 ((nC 45 (by decide)).trans c45) ((nC 46 (by decide)).trans c46) ((nC 47 (by decide)).trans c47)
  obtain ⟨rfl, pm1, pm2, hm3⟩ := o6 st1
  have f39' := hm3.1
  obtain ⟨g4, g5, pmx, k4', m39, k5', x5, x6, n5', s5'⟩ := MQ g3 pm pm1 pm2 hm3 l47
  obtain ⟨-, -, rd', f46', hr'⟩ := hm3
  obtain ⟨y1, y2, y3⟩ := x6 t1
  obtain ⟨r39, r45, r47⟩ := y3
  obtain ⟨g6, k6', u39', n6', s6'⟩ := heE hT htp y1 r39 r45
  rw [y2] at k6' u39'
  have sgm : sgM tb l pos2 = 0 := if_neg (by omega)
  have n36 : NS [39, 46, 47] h5 g6 := (m3.t (n5'.m (by decide))).t (n6'.m (by decide))
  obtain ⟨g7, kiN, asN, owN, caN, shN, k7, u39, u40, u41, u42, u43, u44, hkN, hsN, n7, s7⟩ := M_good (x2 := none) p8 hr' u39' ((n6' 46 (by decide)).trans ((n5' 46 (by decide)).trans f46')) ((n6' 47 (by decide)).trans r47) ((n36 40 (by decide)).trans ((nC 40 (by decide)).trans c40)) ((n36 41 (by decide)).trans ((nC 41 (by decide)).trans c41)) ((n36 42 (by decide)).trans ((nC 42 (by decide)).trans c42)) ((n36 43 (by decide)).trans ((nC 43 (by decide)).trans c43)) ((n36 44 (by decide)).trans ((nC 44 (by decide)).trans c44))
  refine GG _ _ T2 _ _ ki4 as4 ow4 ca4 kiN asN owN caN shN h5 g7 w2b hk4 kC q26 q1 q2 q3' q4 q5 q6 nC (sC hS) (fun Q => ?_) u39 u40 u41 u42 u43 u44 hkN hsN ((n36.m (by decide)).t (n7.m (by decide))) (s7 (s6' (s5' (t3 (sC hS)))))
  rw [← k7 Q, eM_town]
  simp only [qM_town_0, jM_town_0, w0, w1, w2i, w2r, w3, w4, w5_0, w5_1, w5_2, w5_3, w5_4, w5_5, w5_6, w5_7, w5_8, w6_0, w6_1, w7_0, w7_1, w7_2, w7_3, w7_4, w7_5, w8_0, w8_1, w9_0, w9_1, w9_2, w10_0, w10_1, w10_2, w10_3, w10_4, w10_5, w11, w12_0, w12_1, w12_2, w12_3, w12_4, w12_5, w13_0, w13_1, w13_2, w13_3, w13_4, w13_5, w14, w15i, w15r, w16, w17, w18, w19i, w19z, w19l, w20, w21, w22, w23, w24, w25, w26, w27, w28_1, w28_2, w28_3, w28_4, w28_5, w28_6, w29, w30i, w30z, w31, w32, w33, w34, w35, w36, w37_1, w37_2, w37_3, w37_4, w37_5, w37_6, isO_O, set1_0, set1_1i, set1_1r, set1_1n, set1_1l, set1_s, set2_0, set2_1i, set2_1r, set2_1n, set2_1l, set2_s, ldv_i, ldv_l, ldv_r, ldv_s, ldi_i, ldi_s, fK_0, fK_s, gfc_O, fS_0, fS_s, uH_s, uH_n, uH_u, tl_s, tl_n, b1_0, b1_1, ite_true, ite_false, if_true, if_false, List.length_nil, List.length_cons, Nat.zero_le, Nat.zero_add, Nat.reduceAdd, Nat.reduceLeDiff, Nat.reduceLT, Nat.reduceEqDiff, Nat.reduceMul, Nat.add_left_cancel_iff, not_false_eq_true, i10, Bool.false_eq_true, z01, ne_eq, not_true_eq_false, not_false_eq_true, or_self, true_or, or_true, false_or, or_false, f39, pfc_O, ← e1, lp]
  rw [qM_town_32]
  simp only [qM_town_51, jM_town_51, qM_town_70, jM_town_70, jM_town_71, w0, w1, w2i, w2r, w3, w4, w5_0, w5_1, w5_2, w5_3, w5_4, w5_5, w5_6, w5_7, w5_8, w6_0, w6_1, w7_0, w7_1, w7_2, w7_3, w7_4, w7_5, w8_0, w8_1, w9_0, w9_1, w9_2, w10_0, w10_1, w10_2, w10_3, w10_4, w10_5, w11, w12_0, w12_1, w12_2, w12_3, w12_4, w12_5, w13_0, w13_1, w13_2, w13_3, w13_4, w13_5, w14, w15i, w15r, w16, w17, w18, w19i, w19z, w19l, w20, w21, w22, w23, w24, w25, w26, w27, w28_1, w28_2, w28_3, w28_4, w28_5, w28_6, w29, w30i, w30z, w31, w32, w33, w34, w35, w36, w37_1, w37_2, w37_3, w37_4, w37_5, w37_6, isO_O, set1_0, set1_1i, set1_1r, set1_1n, set1_1l, set1_s, set2_0, set2_1i, set2_1r, set2_1n, set2_1l, set2_s, ldv_i, ldv_l, ldv_r, ldv_s, ldi_i, ldi_s, fK_0, fK_s, gfc_O, fS_0, fS_s, uH_s, uH_n, uH_u, tl_s, tl_n, b1_0, b1_1, ite_true, ite_false, if_true, if_false, List.length_nil, List.length_cons, Nat.zero_le, Nat.zero_add, Nat.reduceAdd, Nat.reduceLeDiff, Nat.reduceLT, Nat.reduceEqDiff, Nat.reduceMul, Nat.add_left_cancel_iff, not_false_eq_true, i10, Bool.false_eq_true, z01, ne_eq, not_true_eq_false, not_false_eq_true, or_self, true_or, or_true, false_or, or_false, l39, k3, f39', k4', m39, k5', r39, k6', sgm]

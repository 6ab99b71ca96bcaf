/-! the houses of a text, on both sides -/
def kd (s : Int32) : Int32 := if s = 112 then 0 else if s = 103 then 1 else if s = 99 then 2 else if s = 102 then 3 else -4
def kV (tb : Nat → Nat) (l c : Nat) : Int32 := if c < l then kd (nI (tb c)) else -4
theorem kd_c (s : Int32) : kd s = -4 ∨ (kd s = 0 ∨ kd s = 1 ∨ kd s = 2 ∨ kd s = 3) := by
  unfold kd
  by_cases h1 : s = 112
  · rw [if_pos h1]; exact Or.inr (Or.inl rfl)
  · rw [if_neg h1]
    by_cases h2 : s = 103
    · rw [if_pos h2]; exact Or.inr (Or.inr (Or.inl rfl))
    · rw [if_neg h2]
      by_cases h3 : s = 99
      · rw [if_pos h3]; exact Or.inr (Or.inr (Or.inr (Or.inl rfl)))
      · rw [if_neg h3]
        by_cases h4 : s = 102
        · rw [if_pos h4]; exact Or.inr (Or.inr (Or.inr (Or.inr rfl)))
        · rw [if_neg h4]; exact Or.inl rfl
theorem P_kv {h : AH} {Q : Option Value → AH → Prop} {tb : Nat → Nat} {l c : Nat} : WpM 21 [.int (sgC tb l c)] h Q = Q (some (.int (kV tb l c))) h := by
  unfold sgC kV
  by_cases hc : c < l
  · rw [if_pos hc, if_pos hc, P_kindOf]; rfl
  · rw [if_neg hc, if_neg hc, P_kindOf]; rfl
theorem M_kv {h : AH} {Q : Option Value → AH → Prop} {tb : Nat → Nat} {l c : Nat} : WpM 107 [.int (sgM tb l c)] h Q = Q (some (.int (kV tb l c))) h := by
  unfold sgM kV
  by_cases hc : c < l
  · rw [if_pos hc, if_pos hc, M_kindOf]; rfl
  · rw [if_neg hc, if_neg hc, M_kindOf]; rfl
theorem kV_c (tb : Nat → Nat) (l c : Nat) : kV tb l c = -4 ∨ (c < l ∧ ¬ kV tb l c = -4 ∧ 0 ≤ kV tb l c) := by
  unfold kV
  by_cases hc : c < l
  · rw [if_pos hc]
    rcases kd_c (nI (tb c)) with e | e | e | e | e
    · exact Or.inl e
    · rw [e]; exact Or.inr ⟨hc, by decide, by decide⟩
    · rw [e]; exact Or.inr ⟨hc, by decide, by decide⟩
    · rw [e]; exact Or.inr ⟨hc, by decide, by decide⟩
    · rw [e]; exact Or.inr ⟨hc, by decide, by decide⟩
  · rw [if_neg hc]; exact Or.inl rfl
theorem P_fault {h : AH} {Q : Option Value → AH → Prop} {v1 : Value} {at' : Int32} (h26 : h 26 = aO 2 [.ref 27, v1, .int at']) : WpM 18 [.ref 26] h Q = Q (some (.int (-20 - at'))) h := by
  rw [eP_faultHere]
  simp only [qP_faultHere_0, jP_faultHere_0, w0, w1, w2i, w2r, w3, w4, w5_0, w5_1, w5_2, w5_3, w5_4, w5_5, w5_6, w5_7, w5_8, w6_0, w6_1, w7_0, w7_1, w7_2, w7_3, w7_4, w7_5, w8_0, w8_1, w9_0, w9_1, w9_2, w10_0, w10_1, w10_2, w10_3, w10_4, w10_5, w11, w12_0, w12_1, w12_2, w12_3, w12_4, w12_5, w13_0, w13_1, w13_2, w13_3, w13_4, w13_5, w14, w15i, w15r, w16, w17, w18, w19i, w19z, w19l, w20, w21, w22, w23, w24, w25, w26, w27, w28_1, w28_2, w28_3, w28_4, w28_5, w28_6, w29, w30i, w30z, w31, w32, w33, w34, w35, w36, w37_1, w37_2, w37_3, w37_4, w37_5, w37_6, isO_O, set1_0, set1_1i, set1_1r, set1_1n, set1_1l, set1_s, set2_0, set2_1i, set2_1r, set2_1n, set2_1l, set2_s, ldv_i, ldv_l, ldv_r, ldv_s, ldi_i, ldi_s, fK_0, fK_s, gfc_O, fS_0, fS_s, uH_s, uH_n, uH_u, tl_s, tl_n, b1_0, b1_1, ite_true, ite_false, if_true, if_false, List.length_nil, List.length_cons, Nat.zero_le, Nat.zero_add, Nat.reduceAdd, Nat.reduceLeDiff, Nat.reduceLT, Nat.reduceEqDiff, Nat.reduceMul, Nat.add_left_cancel_iff, not_false_eq_true, h26]
theorem nn1 {x : Nat} (hx : x < 256) : ¬ nI x = -1 := by
  intro z
  have : (nI x).toInt = (-1 : Int32).toInt := by rw [z]
  rw [nI_toInt (by omega), show (-1 : Int32).toInt = -1 from rfl] at this
  omega
theorem n59 {x : Nat} (hx : x < 256) : (nI x = 59) = (x = 59) := propext (nI_eq (b := 59) (by omega) (by decide))
theorem n44 {x : Nat} (hx : x < 256) : (nI x = 44) = (x = 44) := propext (nI_eq (b := 44) (by omega) (by decide))
theorem n61 {x : Nat} (hx : x < 256) : (nI x = 61) = (x = 61) := propext (nI_eq (b := 61) (by omega) (by decide))
def HC (l : Nat) (bt : Nat → Int32) (pu ye : Int32) (n p : Nat) (K A : Nat → Int32) (h : AH) : Prop := h 15 = tO 15 (nI n) pu ye ∧ (∃ ki as ow ca : Nat → Int32, h 16 = aI 8 ki ∧ h 17 = aI 8 as ∧ h 18 = aI 8 ow ∧ h 19 = aI 8 ca ∧ ∀ a, a < n → ki a = K a ∧ as a = A a ∧ ow a = 0 ∧ ca a = 99) ∧ h 26 = aO 2 [.ref 27, .int (nI l), .int (nI p)] ∧ h 27 = aB 100 bt
def HM (l : Nat) (tp : Nat → Int32) (ho pu ye bo : Int32) (be : Int64) (kn pr im : Int32) (n p : Nat) (K A : Nat → Int32) (g : AH) : Prop := g 39 = mO ho pu ye bo (nI l) (nI p) 0 be kn pr im ∧ g 45 = aI 100 tp ∧ ∃ rd : Nat → Int32, g 46 = aI 16 rd ∧ ∀ a, a < n → rd (2 * a) = K a ∧ rd (2 * a + 1) = A a
theorem bdE {h : AH} {n : Nat} {pu ye k v : Int32} {ki as ow ca : Nat → Int32} (h0 : h 15 = tO 15 (nI n) pu ye) (h1 : h 16 = aI 8 ki) (h2 : h 17 = aI 8 as) (h3 : h 18 = aI 8 ow) (h4 : h 19 = aI 8 ca) (hn : n < 8) : ∃ g : AH, (∀ Q, WpM 28 [.ref 15, .int k, .int v] h Q = Q (some (.int (nI n))) g) ∧ g 15 = tO 15 (nI (n + 1)) pu ye ∧ g 16 = aI 8 (upd ki n k) ∧ g 17 = aI 8 (upd as n v) ∧ g 18 = aI 8 (upd ow n 0) ∧ g 19 = aI 8 (upd ca n 99) ∧ NS [15, 16, 17, 18, 19] h g ∧ (Sh h → Sh g) := by
  refine ⟨_, fun Q => T_build (t := 15) h0 h1 h2 h3 h4 hn, uH_s _ _ _, ?_, ?_, ?_, ?_, ?_, fun hS => sh_15 (sh_19 (sh_18 (sh_17 (sh_16 hS))))⟩
  · simp only [uH_s, uH_n, Nat.reduceEqDiff, Nat.reduceAdd, not_false_eq_true]
  · simp only [uH_s, uH_n, Nat.reduceEqDiff, Nat.reduceAdd, not_false_eq_true]
  · simp only [uH_s, uH_n, Nat.reduceEqDiff, Nat.reduceAdd, not_false_eq_true]
  · simp only [uH_s, uH_n, Nat.reduceEqDiff, Nat.reduceAdd, not_false_eq_true]
  · exact ((((NS.r.u (by decide)).u (by decide)).u (by decide)).u (by decide)).u (by decide)
/-- what becomes of the houses from the n-th on, on both sides -/
def HO (tb : Nat → Nat) (l : Nat) (bt tp : Nat → Int32) (pu3 ye3 ho pu ye bo : Int32) (be : Int64) (kn pr im : Int32) (n p : Nat) (K A : Nat → Int32) : Prop := ∃ (st n' pos : Nat) (K' A' : Nat → Int32), pos ≤ l ∧ (st = 0 → (pos = l ∨ tb pos = 59) ∧ 1 ≤ n' ∧ n' ≤ 8 ∧ ∀ a, a < n' → 0 ≤ (A' a).toInt ∧ (A' a).toInt ≤ 99) ∧ (st = 2 → pos < l ∧ ¬ tb pos = 59) ∧ st ≤ 2 ∧ (∀ (h : AH) (x3 x4 x5 : Option Value), HC l bt pu3 ye3 n p K A h → ∃ h' : AH, (∀ Q, Wp none 16 qP_readHouses_2 [some (.ref 26), some (.ref 15), some (.int (nI n)), x3, x4, x5] [] h Q = Q (some (.int (if st = 0 then 0 else -20 - nI pos))) h') ∧ (st = 0 → HC l bt pu3 ye3 n' pos K' A' h') ∧ h' 26 = aO 2 [.ref 27, .int (nI l), .int (nI pos)] ∧ NS [15, 16, 17, 18, 19, 26] h h' ∧ (Sh h → Sh h')) ∧ (∀ (g : AH) (y3 : Option Value), HM l tp ho pu ye bo be kn pr im n p K A g → ∃ (g' : AH) (z : Int32) (pm : Nat), (∀ Q, Wp none 108 qM_readHouses_4 [some (.ref 39), some (.int (nI n)), some (.int 1), y3] [] g Q = Q (some (.int z)) g') ∧ (st = 1 → g' 39 = mO ho pu ye bo (nI l) (nI pos) 1 be kn pr im) ∧ (¬ st = 1 → z = nI n' ∧ pm ≤ l ∧ sk tb l pm = pos ∧ HM l tp ho pu ye bo be kn pr im n' pm K' A' g') ∧ NS [39, 46] g g' ∧ (Sh g → Sh g'))
theorem houses_step {tb : Nat → Nat} {l : Nat} {bt tp : Nat → Int32} {pu3 ye3 ho pu ye bo : Int32} {be : Int64} {kn pr im : Int32} (hT : Tb tb l) (hbt : ∀ k, k < l → bt k = nI (tb k)) (htp : ∀ k, k < l → tp k = nI (tb k)) (n p : Nat) (K A : Nat → Int32) (hn : n < 8) (hp : p ≤ l) (hA : ∀ a, a < n → 0 ≤ (A a).toInt ∧ (A a).toInt ≤ 99) (ih : n + 1 < 8 → ∀ (p' : Nat) (K' A' : Nat → Int32), p' ≤ l → (∀ a, a < n + 1 → 0 ≤ (A' a).toInt ∧ (A' a).toInt ≤ 99) → HO tb l bt tp pu3 ye3 ho pu ye bo be kn pr im (n + 1) p' K' A') : HO tb l bt tp pu3 ye3 ho pu ye bo be kn pr im n p K A := by
  have hl := hT.1
  have hc8 : ¬ (8 : Int32) ≤ nI n := nI_ge (b := 8) (by omega) (by decide)
  have hcp := sk_le (tb := tb) hp
  have wq16 := fun (f : Nat → Int32) (x : Int32) (K : AC → Prop) => wIc_n (f := f) (x := x) (K := K) (show 2 * n < 16 by omega) (show 16 < 2 ^ 31 by decide)
  have wq17 := fun (f : Nat → Int32) (x : Int32) (K : AC → Prop) => wIc_n (f := f) (x := x) (K := K) (show 2 * n + 1 < 16 by omega) (show 16 < 2 ^ 31 by decide)
  rcases kV_c tb l (sk tb l p) with kz | ⟨cl, kne, kge⟩
  · -- no kind
    refine ⟨1, n, sk tb l p, K, A, hcp.2, fun z => absurd z (by decide), fun z => absurd z (by decide), by decide, fun h x3 x4 x5 hc => ?_, fun g y3 hm => ?_⟩
    · obtain ⟨h15, ⟨ki, as, ow, ca, h16, h17, h18, h19, hk⟩, h26, h27⟩ := hc
      obtain ⟨h1, k1, d26, n1, s1⟩ := nsE hT hbt hp h26 h27
      refine ⟨h1, fun Q => ?_, fun z => absurd z (by decide), d26, n1.m (by decide), s1⟩
      rw [qP_readHouses_2, if_neg (by decide)]
      simp only [w0, w1, w2i, w2r, w3, w4, w5_0, w5_1, w5_2, w5_3, w5_4, w5_5, w5_6, w5_7, w5_8, w6_0, w6_1, w7_0, w7_1, w7_2, w7_3, w7_4, w7_5, w8_0, w8_1, w9_0, w9_1, w9_2, w10_0, w10_1, w10_2, w10_3, w10_4, w10_5, w11, w12_0, w12_1, w12_2, w12_3, w12_4, w12_5, w13_0, w13_1, w13_2, w13_3, w13_4, w13_5, w14, w15i, w15r, w16, w17, w18, w19i, w19z, w19l, w20, w21, w22, w23, w24, w25, w26, w27, w28_1, w28_2, w28_3, w28_4, w28_5, w28_6, w29, w30i, w30z, w31, w32, w33, w34, w35, w36, w37_1, w37_2, w37_3, w37_4, w37_5, w37_6, isO_O, set1_0, set1_1i, set1_1r, set1_1n, set1_1l, set1_s, set2_0, set2_1i, set2_1r, set2_1n, set2_1l, set2_s, ldv_i, ldv_l, ldv_r, ldv_s, ldi_i, ldi_s, fK_0, fK_s, gfc_O, fS_0, fS_s, uH_s, uH_n, uH_u, tl_s, tl_n, b1_0, b1_1, ite_true, ite_false, if_true, if_false, List.length_nil, List.length_cons, Nat.zero_le, Nat.zero_add, Nat.reduceAdd, Nat.reduceLeDiff, Nat.reduceLT, Nat.reduceEqDiff, Nat.reduceMul, Nat.add_left_cancel_iff, not_false_eq_true, i10, Bool.false_eq_true, z01, ne_eq, not_true_eq_false, not_false_eq_true, or_self, true_or, or_true, false_or, or_false, hc8, h26, k1, P_kv, kz, i44, d26, P_fault d26]
    · obtain ⟨h39, h45, rd, h46, hr⟩ := hm
      obtain ⟨g1, k1, d39, n1, s1⟩ := heE hT htp hp h39 h45
      obtain ⟨g2, e2, f39, f46, n2, s2⟩ : ∃ q : AH, q = uH (uH g1 39 (aO 5 [.int ho, .ref 40, .ref 41, .ref 42, .ref 43, .ref 44, .int pu, .int ye, .int bo, .ref 45, .int (nI l), .int (nI (sk tb l p)), .int 1, .ref 46, .ref 47, .ref 48, .ref 49, .ref 50, .long be, .int kn, .int pr, .ref 51, .ref 52, .ref 53, .ref 54, .ref 55, .ref 56, .int im, .ref 57, .ref 58, .ref 59, .ref 60])) 46 (aI 16 (upd rd (2 * n) (-4))) ∧ q 39 = mO ho pu ye bo (nI l) (nI (sk tb l p)) 1 be kn pr im ∧ q 46 = aI 16 (upd rd (2 * n) (-4)) ∧ NS [39, 46] g1 q ∧ (Sh g1 → Sh q) := ⟨_, rfl, by rw [uH_n _ _ (by decide)]; exact uH_s _ _ _, uH_s _ _ _, (NS.r.u (by decide)).u (by decide), fun z => sh_46 (sh_39 (wr := 1) z)⟩
      obtain ⟨g3, k3, i39, n3, s3⟩ := numW f39
      have i46 := (n3 46 (by decide)).trans f46
      obtain ⟨g4, e4, j39, n4, s4⟩ : ∃ q : AH, q = uH g3 46 (aI 16 (upd (upd rd (2 * n) (-4)) (2 * n + 1) 0)) ∧ q 39 = mO ho pu ye bo (nI l) (nI (sk tb l p)) 1 be kn pr im ∧ NS [46] g3 q ∧ (Sh g3 → Sh q) := ⟨_, rfl, by rw [uH_n _ _ (by decide)]; exact i39, NS.r.u (by decide), fun z => sh_46 z⟩
      obtain ⟨g5, k5, l39, n5, s5⟩ := haW (c := 44) j39
      have n14 : NS [39, 46] g g4 := (((n1.m (by decide)).t n2).t (n3.m (by decide))).t (n4.m (by decide))
      by_cases n8 : n + 1 < 8
      · have c8 : ¬ (8 : Int32) ≤ nI (n + 1) := nI_ge (b := 8) n8 (by decide)
        refine ⟨g5, nI (n + 1), 0, fun Q => ?_, fun _ => l39, fun z => absurd rfl z, n14.t (n5.m (by decide)), fun z => s5 (s4 (s3 (s2 (s1 z))))⟩
        rw [qM_readHouses_4]
        simp only [qM_readHouses_20, jM_readHouses_20, qM_readHouses_27, jM_readHouses_27, qM_readHouses_40, jM_readHouses_40, qM_readHouses_45, jM_readHouses_45, qM_readHouses_64, jM_readHouses_64, qM_readHouses_65, jM_readHouses_65, qM_readHouses_116, jM_readHouses_116, qM_readHouses_117, jM_readHouses_117, jM_readHouses_4, w0, w1, w2i, w2r, w3, w4, w5_0, w5_1, w5_2, w5_3, w5_4, w5_5, w5_6, w5_7, w5_8, w6_0, w6_1, w7_0, w7_1, w7_2, w7_3, w7_4, w7_5, w8_0, w8_1, w9_0, w9_1, w9_2, w10_0, w10_1, w10_2, w10_3, w10_4, w10_5, w11, w12_0, w12_1, w12_2, w12_3, w12_4, w12_5, w13_0, w13_1, w13_2, w13_3, w13_4, w13_5, w14, w15i, w15r, w16, w17, w18, w19i, w19z, w19l, w20, w21, w22, w23, w24, w25, w26, w27, w28_1, w28_2, w28_3, w28_4, w28_5, w28_6, w29, w30i, w30z, w31, w32, w33, w34, w35, w36, w37_1, w37_2, w37_3, w37_4, w37_5, w37_6, isO_O, set1_0, set1_1i, set1_1r, set1_1n, set1_1l, set1_s, set2_0, set2_1i, set2_1r, set2_1n, set2_1l, set2_s, ldv_i, ldv_l, ldv_r, ldv_s, ldi_i, ldi_s, fK_0, fK_s, gfc_O, fS_0, fS_s, uH_s, uH_n, uH_u, tl_s, tl_n, b1_0, b1_1, ite_true, ite_false, if_true, if_false, List.length_nil, List.length_cons, Nat.zero_le, Nat.zero_add, Nat.reduceAdd, Nat.reduceLeDiff, Nat.reduceLT, Nat.reduceEqDiff, Nat.reduceMul, Nat.add_left_cancel_iff, not_false_eq_true, i10, Bool.false_eq_true, z01, ne_eq, not_true_eq_false, not_false_eq_true, or_self, true_or, or_true, false_or, or_false, h39, k1, M_kv, kz, d39, show ¬ (0 : Int32) ≤ -4 by decide, pfc_O, add0, n2m, (n1 46 (by decide)).trans h46, wq16, ← e2, f39, k3, i39, i46, nI_1, wq17, ← e4, c8, j39, k5]
        rw [qM_readHouses_4]
        simp only [qM_readHouses_121, jM_readHouses_121, w0, w1, w2i, w2r, w3, w4, w5_0, w5_1, w5_2, w5_3, w5_4, w5_5, w5_6, w5_7, w5_8, w6_0, w6_1, w7_0, w7_1, w7_2, w7_3, w7_4, w7_5, w8_0, w8_1, w9_0, w9_1, w9_2, w10_0, w10_1, w10_2, w10_3, w10_4, w10_5, w11, w12_0, w12_1, w12_2, w12_3, w12_4, w12_5, w13_0, w13_1, w13_2, w13_3, w13_4, w13_5, w14, w15i, w15r, w16, w17, w18, w19i, w19z, w19l, w20, w21, w22, w23, w24, w25, w26, w27, w28_1, w28_2, w28_3, w28_4, w28_5, w28_6, w29, w30i, w30z, w31, w32, w33, w34, w35, w36, w37_1, w37_2, w37_3, w37_4, w37_5, w37_6, isO_O, set1_0, set1_1i, set1_1r, set1_1n, set1_1l, set1_s, set2_0, set2_1i, set2_1r, set2_1n, set2_1l, set2_s, ldv_i, ldv_l, ldv_r, ldv_s, ldi_i, ldi_s, fK_0, fK_s, gfc_O, fS_0, fS_s, uH_s, uH_n, uH_u, tl_s, tl_n, b1_0, b1_1, ite_true, ite_false, if_true, if_false, List.length_nil, List.length_cons, Nat.zero_le, Nat.zero_add, Nat.reduceAdd, Nat.reduceLeDiff, Nat.reduceLT, Nat.reduceEqDiff, Nat.reduceMul, Nat.add_left_cancel_iff, not_false_eq_true, i10, Bool.false_eq_true, z01, ne_eq, not_true_eq_false, not_false_eq_true, or_self, true_or, or_true, false_or, or_false]
      · have c8 : (8 : Int32) ≤ nI (n + 1) := by rw [show n + 1 = 8 by omega]; decide
        refine ⟨g4, nI (n + 1), 0, fun Q => ?_, fun _ => j39, fun z => absurd rfl z, n14, fun z => s4 (s3 (s2 (s1 z)))⟩
        rw [qM_readHouses_4]
        simp only [qM_readHouses_20, jM_readHouses_20, qM_readHouses_27, jM_readHouses_27, qM_readHouses_40, jM_readHouses_40, qM_readHouses_45, jM_readHouses_45, qM_readHouses_64, jM_readHouses_64, qM_readHouses_65, jM_readHouses_65, qM_readHouses_116, jM_readHouses_116, qM_readHouses_117, jM_readHouses_117, jM_readHouses_4, w0, w1, w2i, w2r, w3, w4, w5_0, w5_1, w5_2, w5_3, w5_4, w5_5, w5_6, w5_7, w5_8, w6_0, w6_1, w7_0, w7_1, w7_2, w7_3, w7_4, w7_5, w8_0, w8_1, w9_0, w9_1, w9_2, w10_0, w10_1, w10_2, w10_3, w10_4, w10_5, w11, w12_0, w12_1, w12_2, w12_3, w12_4, w12_5, w13_0, w13_1, w13_2, w13_3, w13_4, w13_5, w14, w15i, w15r, w16, w17, w18, w19i, w19z, w19l, w20, w21, w22, w23, w24, w25, w26, w27, w28_1, w28_2, w28_3, w28_4, w28_5, w28_6, w29, w30i, w30z, w31, w32, w33, w34, w35, w36, w37_1, w37_2, w37_3, w37_4, w37_5, w37_6, isO_O, set1_0, set1_1i, set1_1r, set1_1n, set1_1l, set1_s, set2_0, set2_1i, set2_1r, set2_1n, set2_1l, set2_s, ldv_i, ldv_l, ldv_r, ldv_s, ldi_i, ldi_s, fK_0, fK_s, gfc_O, fS_0, fS_s, uH_s, uH_n, uH_u, tl_s, tl_n, b1_0, b1_1, ite_true, ite_false, if_true, if_false, List.length_nil, List.length_cons, Nat.zero_le, Nat.zero_add, Nat.reduceAdd, Nat.reduceLeDiff, Nat.reduceLT, Nat.reduceEqDiff, Nat.reduceMul, Nat.add_left_cancel_iff, not_false_eq_true, i10, Bool.false_eq_true, z01, ne_eq, not_true_eq_false, not_false_eq_true, or_self, true_or, or_true, false_or, or_false, h39, k1, M_kv, kz, d39, show ¬ (0 : Int32) ≤ -4 by decide, pfc_O, add0, n2m, (n1 46 (by decide)).trans h46, wq16, ← e2, f39, k3, i39, i46, nI_1, wq17, ← e4, c8]
        rw [qM_readHouses_4]
        simp only [qM_readHouses_121, jM_readHouses_121, w0, w1, w2i, w2r, w3, w4, w5_0, w5_1, w5_2, w5_3, w5_4, w5_5, w5_6, w5_7, w5_8, w6_0, w6_1, w7_0, w7_1, w7_2, w7_3, w7_4, w7_5, w8_0, w8_1, w9_0, w9_1, w9_2, w10_0, w10_1, w10_2, w10_3, w10_4, w10_5, w11, w12_0, w12_1, w12_2, w12_3, w12_4, w12_5, w13_0, w13_1, w13_2, w13_3, w13_4, w13_5, w14, w15i, w15r, w16, w17, w18, w19i, w19z, w19l, w20, w21, w22, w23, w24, w25, w26, w27, w28_1, w28_2, w28_3, w28_4, w28_5, w28_6, w29, w30i, w30z, w31, w32, w33, w34, w35, w36, w37_1, w37_2, w37_3, w37_4, w37_5, w37_6, isO_O, set1_0, set1_1i, set1_1r, set1_1n, set1_1l, set1_s, set2_0, set2_1i, set2_1r, set2_1n, set2_1l, set2_s, ldv_i, ldv_l, ldv_r, ldv_s, ldi_i, ldi_s, fK_0, fK_s, gfc_O, fS_0, fS_s, uH_s, uH_n, uH_u, tl_s, tl_n, b1_0, b1_1, ite_true, ite_false, if_true, if_false, List.length_nil, List.length_cons, Nat.zero_le, Nat.zero_add, Nat.reduceAdd, Nat.reduceLeDiff, Nat.reduceLT, Nat.reduceEqDiff, Nat.reduceMul, Nat.add_left_cancel_iff, not_false_eq_true, i10, Bool.false_eq_true, z01, ne_eq, not_true_eq_false, not_false_eq_true, or_self, true_or, or_true, false_or, or_false]
  -- a kind
  have hq0 : sk tb l p + 1 ≤ l := by omega
  have hqp := sk_le (tb := tb) hq0
  -- the reference up to the number
  have MR : ∀ (g : AH), HM l tp ho pu ye bo be kn pr im n p K A g → ∃ (g1 g2 : AH) (rd : Nat → Int32), (∀ Q, WpM 103 [.ref 39] g Q = Q (some (.int (sgM tb l (sk tb l p)))) g1) ∧ g1 39 = mO ho pu ye bo (nI l) (nI (sk tb l p)) 0 be kn pr im ∧ g1 46 = aI 16 rd ∧ g2 = uH (uH g1 39 (aO 5 [.int ho, .ref 40, .ref 41, .ref 42, .ref 43, .ref 44, .int pu, .int ye, .int bo, .ref 45, .int (nI l), .int (nI (sk tb l p + 1)), .int 0, .ref 46, .ref 47, .ref 48, .ref 49, .ref 50, .long be, .int kn, .int pr, .ref 51, .ref 52, .ref 53, .ref 54, .ref 55, .ref 56, .int im, .ref 57, .ref 58, .ref 59, .ref 60])) 46 (aI 16 (upd rd (2 * n) (kV tb l (sk tb l p)))) ∧ g2 39 = mO ho pu ye bo (nI l) (nI (sk tb l p + 1)) 0 be kn pr im ∧ g2 45 = aI 100 tp ∧ g2 46 = aI 16 (upd rd (2 * n) (kV tb l (sk tb l p))) ∧ (∀ a, a < n → rd (2 * a) = K a ∧ rd (2 * a + 1) = A a) ∧ NS [39, 46] g g2 ∧ (Sh g → Sh g2) := by
    intro g hm
    obtain ⟨h39, h45, rd, h46, hr⟩ := hm
    obtain ⟨g1, k1, d39, n1, s1⟩ := heE hT htp hp h39 h45
    refine ⟨g1, _, rd, k1, d39, (n1 46 (by decide)).trans h46, rfl, by rw [uH_n _ _ (by decide)]; exact uH_s _ _ _, ?_, uH_s _ _ _, hr, (n1.m (by decide)).t ((NS.r.u (by decide)).u (by decide)), fun z => sh_46 (sh_39 (wr := 0) (s1 z))⟩
    rw [uH_n _ _ (by decide), uH_n _ _ (by decide)]; exact (n1 45 (by decide)).trans h45
  by_cases hN : isN tb l (sk tb l (sk tb l p + 1))
  rotate_left
  · -- no number
    refine ⟨1, n, sk tb l (sk tb l p + 1), K, A, hqp.2, fun z => absurd z (by decide), fun z => absurd z (by decide), by decide, fun h x3 x4 x5 hc => ?_, fun g y3 hm => ?_⟩
    · obtain ⟨h15, ⟨ki, as, ow, ca, h16, h17, h18, h19, hk⟩, h26, h27⟩ := hc
      obtain ⟨h1, k1, d26, n1, s1⟩ := nsE hT hbt hp h26 h27
      obtain ⟨h2, e2, f26, n2, s2⟩ : ∃ q : AH, q = uH h1 26 (aO 2 [.ref 27, .int (nI l), .int (nI (sk tb l p + 1))]) ∧ q 26 = aO 2 [.ref 27, .int (nI l), .int (nI (sk tb l p + 1))] ∧ NS [26] h1 q ∧ (Sh h1 → Sh q) := ⟨_, rfl, uH_s _ _ _, NS.r.u (by decide), fun z => sh_26 z⟩
      obtain ⟨h3, k3, g26, n3, s3⟩ := nuE0 hT hbt hq0 f26 ((n2 27 (by decide)).trans ((n1 27 (by decide)).trans h27)) hN
      refine ⟨h3, fun Q => ?_, fun z => absurd z (by decide), g26, ((n1.t n2).t n3).m (by decide), fun z => s3 (s2 (s1 z))⟩
      rw [qP_readHouses_2, if_neg (by decide)]
      simp only [qP_readHouses_27, jP_readHouses_27, w0, w1, w2i, w2r, w3, w4, w5_0, w5_1, w5_2, w5_3, w5_4, w5_5, w5_6, w5_7, w5_8, w6_0, w6_1, w7_0, w7_1, w7_2, w7_3, w7_4, w7_5, w8_0, w8_1, w9_0, w9_1, w9_2, w10_0, w10_1, w10_2, w10_3, w10_4, w10_5, w11, w12_0, w12_1, w12_2, w12_3, w12_4, w12_5, w13_0, w13_1, w13_2, w13_3, w13_4, w13_5, w14, w15i, w15r, w16, w17, w18, w19i, w19z, w19l, w20, w21, w22, w23, w24, w25, w26, w27, w28_1, w28_2, w28_3, w28_4, w28_5, w28_6, w29, w30i, w30z, w31, w32, w33, w34, w35, w36, w37_1, w37_2, w37_3, w37_4, w37_5, w37_6, isO_O, set1_0, set1_1i, set1_1r, set1_1n, set1_1l, set1_s, set2_0, set2_1i, set2_1r, set2_1n, set2_1l, set2_s, ldv_i, ldv_l, ldv_r, ldv_s, ldi_i, ldi_s, fK_0, fK_s, gfc_O, fS_0, fS_s, uH_s, uH_n, uH_u, tl_s, tl_n, b1_0, b1_1, ite_true, ite_false, if_true, if_false, List.length_nil, List.length_cons, Nat.zero_le, Nat.zero_add, Nat.reduceAdd, Nat.reduceLeDiff, Nat.reduceLT, Nat.reduceEqDiff, Nat.reduceMul, Nat.add_left_cancel_iff, not_false_eq_true, i10, Bool.false_eq_true, z01, ne_eq, not_true_eq_false, not_false_eq_true, or_self, true_or, or_true, false_or, or_false, hc8, h26, k1, P_kv, kne, d26, pfc_2, nI_1, ← e2, f26, k3, i44, g26, P_fault g26]
    · obtain ⟨g1, g2, rd, k1, d39, d46, e2, f39, f45, f46, hr, n2, s2⟩ := MR g hm
      obtain ⟨g3, zz, k3, i39, n3, s3⟩ := numE0 hT htp hq0 f39 f45 hN
      have i46 := (n3 46 (by decide)).trans f46
      obtain ⟨g4, e4, j39, n4, s4⟩ : ∃ q : AH, q = uH g3 46 (aI 16 (upd (upd rd (2 * n) (kV tb l (sk tb l p))) (2 * n + 1) zz)) ∧ q 39 = mO ho pu ye bo (nI l) (nI (sk tb l (sk tb l p + 1))) 1 be kn pr im ∧ NS [46] g3 q ∧ (Sh g3 → Sh q) := ⟨_, rfl, by rw [uH_n _ _ (by decide)]; exact i39, NS.r.u (by decide), fun z => sh_46 z⟩
      obtain ⟨g5, k5, l39, n5, s5⟩ := haW (c := 44) j39
      have n14 : NS [39, 46] g g4 := (n2.t (n3.m (by decide))).t (n4.m (by decide))
      have h39 := hm.1
      by_cases n8 : n + 1 < 8
      · have c8 : ¬ (8 : Int32) ≤ nI (n + 1) := nI_ge (b := 8) n8 (by decide)
        refine ⟨g5, nI (n + 1), 0, fun Q => ?_, fun _ => l39, fun z => absurd rfl z, n14.t (n5.m (by decide)), fun z => s5 (s4 (s3 (s2 z)))⟩
        rw [qM_readHouses_4]
        simp only [qM_readHouses_20, jM_readHouses_20, qM_readHouses_27, jM_readHouses_27, qM_readHouses_44, jM_readHouses_44, qM_readHouses_45, jM_readHouses_45, qM_readHouses_64, jM_readHouses_64, qM_readHouses_65, jM_readHouses_65, qM_readHouses_116, jM_readHouses_116, qM_readHouses_117, jM_readHouses_117, jM_readHouses_4, w0, w1, w2i, w2r, w3, w4, w5_0, w5_1, w5_2, w5_3, w5_4, w5_5, w5_6, w5_7, w5_8, w6_0, w6_1, w7_0, w7_1, w7_2, w7_3, w7_4, w7_5, w8_0, w8_1, w9_0, w9_1, w9_2, w10_0, w10_1, w10_2, w10_3, w10_4, w10_5, w11, w12_0, w12_1, w12_2, w12_3, w12_4, w12_5, w13_0, w13_1, w13_2, w13_3, w13_4, w13_5, w14, w15i, w15r, w16, w17, w18, w19i, w19z, w19l, w20, w21, w22, w23, w24, w25, w26, w27, w28_1, w28_2, w28_3, w28_4, w28_5, w28_6, w29, w30i, w30z, w31, w32, w33, w34, w35, w36, w37_1, w37_2, w37_3, w37_4, w37_5, w37_6, isO_O, set1_0, set1_1i, set1_1r, set1_1n, set1_1l, set1_s, set2_0, set2_1i, set2_1r, set2_1n, set2_1l, set2_s, ldv_i, ldv_l, ldv_r, ldv_s, ldi_i, ldi_s, fK_0, fK_s, gfc_O, fS_0, fS_s, uH_s, uH_n, uH_u, tl_s, tl_n, b1_0, b1_1, ite_true, ite_false, if_true, if_false, List.length_nil, List.length_cons, Nat.zero_le, Nat.zero_add, Nat.reduceAdd, Nat.reduceLeDiff, Nat.reduceLT, Nat.reduceEqDiff, Nat.reduceMul, Nat.add_left_cancel_iff, not_false_eq_true, i10, Bool.false_eq_true, z01, ne_eq, not_true_eq_false, not_false_eq_true, or_self, true_or, or_true, false_or, or_false, h39, k1, M_kv, kge, d39, pfc_O, nI_1, n2m, d46, wq16, ← e2, f39, k3, i39, i46, wq17, ← e4, c8, j39, k5]
        rw [qM_readHouses_4]
        simp only [qM_readHouses_121, jM_readHouses_121, w0, w1, w2i, w2r, w3, w4, w5_0, w5_1, w5_2, w5_3, w5_4, w5_5, w5_6, w5_7, w5_8, w6_0, w6_1, w7_0, w7_1, w7_2, w7_3, w7_4, w7_5, w8_0, w8_1, w9_0, w9_1, w9_2, w10_0, w10_1, w10_2, w10_3, w10_4, w10_5, w11, w12_0, w12_1, w12_2, w12_3, w12_4, w12_5, w13_0, w13_1, w13_2, w13_3, w13_4, w13_5, w14, w15i, w15r, w16, w17, w18, w19i, w19z, w19l, w20, w21, w22, w23, w24, w25, w26, w27, w28_1, w28_2, w28_3, w28_4, w28_5, w28_6, w29, w30i, w30z, w31, w32, w33, w34, w35, w36, w37_1, w37_2, w37_3, w37_4, w37_5, w37_6, isO_O, set1_0, set1_1i, set1_1r, set1_1n, set1_1l, set1_s, set2_0, set2_1i, set2_1r, set2_1n, set2_1l, set2_s, ldv_i, ldv_l, ldv_r, ldv_s, ldi_i, ldi_s, fK_0, fK_s, gfc_O, fS_0, fS_s, uH_s, uH_n, uH_u, tl_s, tl_n, b1_0, b1_1, ite_true, ite_false, if_true, if_false, List.length_nil, List.length_cons, Nat.zero_le, Nat.zero_add, Nat.reduceAdd, Nat.reduceLeDiff, Nat.reduceLT, Nat.reduceEqDiff, Nat.reduceMul, Nat.add_left_cancel_iff, not_false_eq_true, i10, Bool.false_eq_true, z01, ne_eq, not_true_eq_false, not_false_eq_true, or_self, true_or, or_true, false_or, or_false]
      · have c8 : (8 : Int32) ≤ nI (n + 1) := by rw [show n + 1 = 8 by omega]; decide
        refine ⟨g4, nI (n + 1), 0, fun Q => ?_, fun _ => j39, fun z => absurd rfl z, n14, fun z => s4 (s3 (s2 z))⟩
        rw [qM_readHouses_4]
        simp only [qM_readHouses_20, jM_readHouses_20, qM_readHouses_27, jM_readHouses_27, qM_readHouses_44, jM_readHouses_44, qM_readHouses_45, jM_readHouses_45, qM_readHouses_64, jM_readHouses_64, qM_readHouses_65, jM_readHouses_65, qM_readHouses_116, jM_readHouses_116, qM_readHouses_117, jM_readHouses_117, jM_readHouses_4, w0, w1, w2i, w2r, w3, w4, w5_0, w5_1, w5_2, w5_3, w5_4, w5_5, w5_6, w5_7, w5_8, w6_0, w6_1, w7_0, w7_1, w7_2, w7_3, w7_4, w7_5, w8_0, w8_1, w9_0, w9_1, w9_2, w10_0, w10_1, w10_2, w10_3, w10_4, w10_5, w11, w12_0, w12_1, w12_2, w12_3, w12_4, w12_5, w13_0, w13_1, w13_2, w13_3, w13_4, w13_5, w14, w15i, w15r, w16, w17, w18, w19i, w19z, w19l, w20, w21, w22, w23, w24, w25, w26, w27, w28_1, w28_2, w28_3, w28_4, w28_5, w28_6, w29, w30i, w30z, w31, w32, w33, w34, w35, w36, w37_1, w37_2, w37_3, w37_4, w37_5, w37_6, isO_O, set1_0, set1_1i, set1_1r, set1_1n, set1_1l, set1_s, set2_0, set2_1i, set2_1r, set2_1n, set2_1l, set2_s, ldv_i, ldv_l, ldv_r, ldv_s, ldi_i, ldi_s, fK_0, fK_s, gfc_O, fS_0, fS_s, uH_s, uH_n, uH_u, tl_s, tl_n, b1_0, b1_1, ite_true, ite_false, if_true, if_false, List.length_nil, List.length_cons, Nat.zero_le, Nat.zero_add, Nat.reduceAdd, Nat.reduceLeDiff, Nat.reduceLT, Nat.reduceEqDiff, Nat.reduceMul, Nat.add_left_cancel_iff, not_false_eq_true, i10, Bool.false_eq_true, z01, ne_eq, not_true_eq_false, not_false_eq_true, or_self, true_or, or_true, false_or, or_false, h39, k1, M_kv, kge, d39, pfc_O, nI_1, n2m, d46, wq16, ← e2, f39, k3, i39, i46, wq17, ← e4, c8]
        rw [qM_readHouses_4]
        simp only [qM_readHouses_121, jM_readHouses_121, w0, w1, w2i, w2r, w3, w4, w5_0, w5_1, w5_2, w5_3, w5_4, w5_5, w5_6, w5_7, w5_8, w6_0, w6_1, w7_0, w7_1, w7_2, w7_3, w7_4, w7_5, w8_0, w8_1, w9_0, w9_1, w9_2, w10_0, w10_1, w10_2, w10_3, w10_4, w10_5, w11, w12_0, w12_1, w12_2, w12_3, w12_4, w12_5, w13_0, w13_1, w13_2, w13_3, w13_4, w13_5, w14, w15i, w15r, w16, w17, w18, w19i, w19z, w19l, w20, w21, w22, w23, w24, w25, w26, w27, w28_1, w28_2, w28_3, w28_4, w28_5, w28_6, w29, w30i, w30z, w31, w32, w33, w34, w35, w36, w37_1, w37_2, w37_3, w37_4, w37_5, w37_6, isO_O, set1_0, set1_1i, set1_1r, set1_1n, set1_1l, set1_s, set2_0, set2_1i, set2_1r, set2_1n, set2_1l, set2_s, ldv_i, ldv_l, ldv_r, ldv_s, ldi_i, ldi_s, fK_0, fK_s, gfc_O, fS_0, fS_s, uH_s, uH_n, uH_u, tl_s, tl_n, b1_0, b1_1, ite_true, ite_false, if_true, if_false, List.length_nil, List.length_cons, Nat.zero_le, Nat.zero_add, Nat.reduceAdd, Nat.reduceLeDiff, Nat.reduceLT, Nat.reduceEqDiff, Nat.reduceMul, Nat.add_left_cancel_iff, not_false_eq_true, i10, Bool.false_eq_true, z01, ne_eq, not_true_eq_false, not_false_eq_true, or_self, true_or, or_true, false_or, or_false]
  -- a number
  have v9 := hN.2
  have he0 := dgE_le tb (l - sk tb l (sk tb l p + 1)) (sk tb l (sk tb l p + 1))
  obtain ⟨q, hqq⟩ : ∃ q, q = sk tb l (sk tb l p + 1) := ⟨_, rfl⟩
  obtain ⟨e, hee⟩ : ∃ e, e = dgE tb (l - sk tb l (sk tb l p + 1)) (sk tb l (sk tb l p + 1)) := ⟨_, rfl⟩
  obtain ⟨v, hvv⟩ : ∃ v, v = vlC tb (l - sk tb l (sk tb l p + 1)) (sk tb l (sk tb l p + 1)) 0 := ⟨_, rfl⟩
  obtain ⟨k, hkk⟩ : ∃ k, k = kV tb l (sk tb l p) := ⟨_, rfl⟩
  rw [← hkk] at kne kge MR
  rw [← hvv] at v9
  rw [← hee] at he0
  have hel : e ≤ l := by omega
  have hre := sk_le (tb := tb) hel
  have hA' : ∀ a, a < n + 1 → 0 ≤ (upd A n (nI v) a).toInt ∧ (upd A n (nI v) a).toInt ≤ 99 := fun a ha => by
    by_cases z : a = n
    · rw [z, upd_s, nI_toInt (by omega)]; omega
    · rw [upd_n z]; exact hA a (by omega)
  -- the class up to the sign behind the number
  have CR : ∀ (h : AH), HC l bt pu3 ye3 n p K A h → ∃ (h1 h2 h3 h4 h5 : AH), (∀ Q, WpM 20 [.ref 26] h Q = Q (some (.int (sgC tb l (sk tb l p)))) h1) ∧ h1 26 = aO 2 [.ref 27, .int (nI l), .int (nI (sk tb l p))] ∧ h2 = uH h1 26 (aO 2 [.ref 27, .int (nI l), .int (nI (sk tb l p + 1))]) ∧ h2 26 = aO 2 [.ref 27, .int (nI l), .int (nI (sk tb l p + 1))] ∧ (∀ Q, WpM 24 [.ref 26] h2 Q = Q (some (.int (nI v))) h3) ∧ h3 15 = tO 15 (nI n) pu3 ye3 ∧ (∀ Q, WpM 28 [.ref 15, .int k, .int (nI v)] h3 Q = Q (some (.int (nI n))) h4) ∧ h4 26 = aO 2 [.ref 27, .int (nI l), .int (nI e)] ∧ (∀ Q, WpM 20 [.ref 26] h4 Q = Q (some (.int (sgC tb l (sk tb l e)))) h5) ∧ HC l bt pu3 ye3 (n + 1) (sk tb l e) (upd K n k) (upd A n (nI v)) h5 ∧ NS [15, 16, 17, 18, 19, 26] h h5 ∧ (Sh h → Sh h5) := by
    intro h hc
    obtain ⟨h15, ⟨ki, as, ow, ca, h16, h17, h18, h19, hk⟩, h26, h27⟩ := hc
    obtain ⟨h1, k1, d26, n1, s1⟩ := nsE hT hbt hp h26 h27
    obtain ⟨h2, e2, f26, n2, s2⟩ : ∃ q : AH, q = uH h1 26 (aO 2 [.ref 27, .int (nI l), .int (nI (sk tb l p + 1))]) ∧ q 26 = aO 2 [.ref 27, .int (nI l), .int (nI (sk tb l p + 1))] ∧ NS [26] h1 q ∧ (Sh h1 → Sh q) := ⟨_, rfl, uH_s _ _ _, NS.r.u (by decide), fun z => sh_26 z⟩
    have f27 := (n2 27 (by decide)).trans ((n1 27 (by decide)).trans h27)
    obtain ⟨h3, k3, g26, n3, s3⟩ := nuE hT hbt hq0 f26 f27 hN
    rw [← hvv] at k3
    rw [← hee] at g26
    have n13 := (n1.t n2).t n3
    have g15 := (n13 15 (by decide)).trans h15
    obtain ⟨h4, k4, i15, i16, i17, i18, i19, n4, s4⟩ := bdE (k := k) (v := nI v) g15 ((n13 16 (by decide)).trans h16) ((n13 17 (by decide)).trans h17) ((n13 18 (by decide)).trans h18) ((n13 19 (by decide)).trans h19) hn
    have i26 := (n4 26 (by decide)).trans g26
    have i27 := (n4 27 (by decide)).trans ((n3 27 (by decide)).trans f27)
    obtain ⟨h5, k5, j26, n5, s5⟩ := nsE hT hbt hel i26 i27
    refine ⟨h1, h2, h3, h4, h5, k1, d26, e2, f26, k3, g15, k4, i26, k5, ⟨(n5 15 (by decide)).trans i15, ⟨_, _, _, _, (n5 16 (by decide)).trans i16, (n5 17 (by decide)).trans i17, (n5 18 (by decide)).trans i18, (n5 19 (by decide)).trans i19, fun a ha => ?_⟩, j26, (n5 27 (by decide)).trans i27⟩, ((n13.m (by decide)).t (n4.m (by decide))).t (n5.m (by decide)), fun z => s5 (s4 (s3 (s2 (s1 z))))⟩
    by_cases z : a = n
    · rw [z, upd_s, upd_s, upd_s, upd_s, upd_s, upd_s]; exact ⟨rfl, rfl, rfl, rfl⟩
    · rw [upd_n z, upd_n z, upd_n z, upd_n z, upd_n z, upd_n z]; exact hk a (by omega)
  -- the reference up to behind the number
  have MS : ∀ (g : AH), HM l tp ho pu ye bo be kn pr im n p K A g → ∃ (g1 g2 g3 g4 : AH) (rd : Nat → Int32), (∀ Q, WpM 103 [.ref 39] g Q = Q (some (.int (sgM tb l (sk tb l p)))) g1) ∧ g1 39 = mO ho pu ye bo (nI l) (nI (sk tb l p)) 0 be kn pr im ∧ g1 46 = aI 16 rd ∧ g2 = uH (uH g1 39 (aO 5 [.int ho, .ref 40, .ref 41, .ref 42, .ref 43, .ref 44, .int pu, .int ye, .int bo, .ref 45, .int (nI l), .int (nI (sk tb l p + 1)), .int 0, .ref 46, .ref 47, .ref 48, .ref 49, .ref 50, .long be, .int kn, .int pr, .ref 51, .ref 52, .ref 53, .ref 54, .ref 55, .ref 56, .int im, .ref 57, .ref 58, .ref 59, .ref 60])) 46 (aI 16 (upd rd (2 * n) k)) ∧ g2 39 = mO ho pu ye bo (nI l) (nI (sk tb l p + 1)) 0 be kn pr im ∧ (∀ Q, WpM 106 [.ref 39, .int 99] g2 Q = Q (some (.int (nI v))) g3) ∧ g3 39 = mO ho pu ye bo (nI l) (nI e) 0 be kn pr im ∧ g3 46 = aI 16 (upd rd (2 * n) k) ∧ g4 = uH g3 46 (aI 16 (upd (upd rd (2 * n) k) (2 * n + 1) (nI v))) ∧ HM l tp ho pu ye bo be kn pr im (n + 1) e (upd K n k) (upd A n (nI v)) g4 ∧ NS [39, 46] g g4 ∧ (Sh g → Sh g4) := by
    intro g hm
    obtain ⟨g1, g2, rd, k1, d39, d46, e2, f39, f45, f46, hr, n2, s2⟩ := MR g hm
    obtain ⟨g3, k3, i39, n3, s3⟩ := numE hT htp hq0 f39 f45 hN
    rw [← hvv] at k3
    rw [← hee] at i39
    have i46 := (n3 46 (by decide)).trans f46
    refine ⟨g1, g2, g3, _, rd, k1, d39, d46, e2, f39, k3, i39, i46, rfl, ⟨by rw [uH_n _ _ (by decide)]; exact i39, by rw [uH_n _ _ (by decide)]; exact (n3 45 (by decide)).trans f45, _, uH_s _ _ _, fun a ha => ?_⟩, (n2.t (n3.m (by decide))).t (NS.r.u (by decide)), fun z => sh_46 (s3 (s2 z))⟩
    by_cases z : a = n
    · rw [z, upd_s, upd_s, upd_s, upd_n (by omega), upd_s]; exact ⟨rfl, rfl⟩
    · rw [upd_n (show ¬ 2 * a = 2 * n + 1 by omega), upd_n (show ¬ 2 * a = 2 * n by omega), upd_n (show ¬ 2 * a + 1 = 2 * n + 1 by omega), upd_n (show ¬ 2 * a + 1 = 2 * n by omega), upd_n z, upd_n z]; exact hr a (by omega)
  -- the reference's exit where no comma goes on
  have MX : ¬ (n + 1 < 8 ∧ sk tb l e < l ∧ tb (sk tb l e) = 44) → ∀ (g : AH) (y3 : Option Value), HM l tp ho pu ye bo be kn pr im n p K A g → ∃ (g' : AH) (pm : Nat), (∀ Q, Wp none 108 qM_readHouses_4 [some (.ref 39), some (.int (nI n)), some (.int 1), y3] [] g Q = Q (some (.int (nI (n + 1)))) g') ∧ pm ≤ l ∧ sk tb l pm = sk tb l e ∧ HM l tp ho pu ye bo be kn pr im (n + 1) pm (upd K n k) (upd A n (nI v)) g' ∧ NS [39, 46] g g' ∧ (Sh g → Sh g') := by
    intro hx g y3 hm
    have h39 := hm.1
    obtain ⟨g1, g2, g3, g4, rd, k1, d39, d46, e2, f39, k3, i39, i46, e4, hm4, n4, s4⟩ := MS g hm
    have j39 := hm4.1
    by_cases n8 : n + 1 < 8
    · have c8 : ¬ (8 : Int32) ≤ nI (n + 1) := nI_ge (b := 8) n8 (by decide)
      obtain ⟨g5, k5, l39, n5, s5⟩ := haE0 (c := 44) hT htp (by decide) hel j39 hm4.2.1 (fun z => hx ⟨n8, z⟩)
      rw [show nI 44 = 44 from rfl] at k5
      refine ⟨g5, sk tb l e, fun Q => ?_, hre.2, sk_id hel, ⟨l39, (n5 45 (by decide)).trans hm4.2.1, ?_⟩, n4.t (n5.m (by decide)), fun z => s5 (s4 z)⟩
      · rw [qM_readHouses_4]
        simp only [qM_readHouses_20, jM_readHouses_20, qM_readHouses_27, jM_readHouses_27, qM_readHouses_44, jM_readHouses_44, qM_readHouses_45, jM_readHouses_45, qM_readHouses_64, jM_readHouses_64, qM_readHouses_65, jM_readHouses_65, qM_readHouses_116, jM_readHouses_116, qM_readHouses_117, jM_readHouses_117, jM_readHouses_4, w0, w1, w2i, w2r, w3, w4, w5_0, w5_1, w5_2, w5_3, w5_4, w5_5, w5_6, w5_7, w5_8, w6_0, w6_1, w7_0, w7_1, w7_2, w7_3, w7_4, w7_5, w8_0, w8_1, w9_0, w9_1, w9_2, w10_0, w10_1, w10_2, w10_3, w10_4, w10_5, w11, w12_0, w12_1, w12_2, w12_3, w12_4, w12_5, w13_0, w13_1, w13_2, w13_3, w13_4, w13_5, w14, w15i, w15r, w16, w17, w18, w19i, w19z, w19l, w20, w21, w22, w23, w24, w25, w26, w27, w28_1, w28_2, w28_3, w28_4, w28_5, w28_6, w29, w30i, w30z, w31, w32, w33, w34, w35, w36, w37_1, w37_2, w37_3, w37_4, w37_5, w37_6, isO_O, set1_0, set1_1i, set1_1r, set1_1n, set1_1l, set1_s, set2_0, set2_1i, set2_1r, set2_1n, set2_1l, set2_s, ldv_i, ldv_l, ldv_r, ldv_s, ldi_i, ldi_s, fK_0, fK_s, gfc_O, fS_0, fS_s, uH_s, uH_n, uH_u, tl_s, tl_n, b1_0, b1_1, ite_true, ite_false, if_true, if_false, List.length_nil, List.length_cons, Nat.zero_le, Nat.zero_add, Nat.reduceAdd, Nat.reduceLeDiff, Nat.reduceLT, Nat.reduceEqDiff, Nat.reduceMul, Nat.add_left_cancel_iff, not_false_eq_true, i10, Bool.false_eq_true, z01, ne_eq, not_true_eq_false, not_false_eq_true, or_self, true_or, or_true, false_or, or_false, h39, k1, M_kv, ← hkk, kge, d39, pfc_O, nI_1, n2m, d46, wq16, ← e2, f39, k3, i39, i46, wq17, ← e4, c8, j39, k5]
        rw [qM_readHouses_4]
        simp only [qM_readHouses_121, jM_readHouses_121, w0, w1, w2i, w2r, w3, w4, w5_0, w5_1, w5_2, w5_3, w5_4, w5_5, w5_6, w5_7, w5_8, w6_0, w6_1, w7_0, w7_1, w7_2, w7_3, w7_4, w7_5, w8_0, w8_1, w9_0, w9_1, w9_2, w10_0, w10_1, w10_2, w10_3, w10_4, w10_5, w11, w12_0, w12_1, w12_2, w12_3, w12_4, w12_5, w13_0, w13_1, w13_2, w13_3, w13_4, w13_5, w14, w15i, w15r, w16, w17, w18, w19i, w19z, w19l, w20, w21, w22, w23, w24, w25, w26, w27, w28_1, w28_2, w28_3, w28_4, w28_5, w28_6, w29, w30i, w30z, w31, w32, w33, w34, w35, w36, w37_1, w37_2, w37_3, w37_4, w37_5, w37_6, isO_O, set1_0, set1_1i, set1_1r, set1_1n, set1_1l, set1_s, set2_0, set2_1i, set2_1r, set2_1n, set2_1l, set2_s, ldv_i, ldv_l, ldv_r, ldv_s, ldi_i, ldi_s, fK_0, fK_s, gfc_O, fS_0, fS_s, uH_s, uH_n, uH_u, tl_s, tl_n, b1_0, b1_1, ite_true, ite_false, if_true, if_false, List.length_nil, List.length_cons, Nat.zero_le, Nat.zero_add, Nat.reduceAdd, Nat.reduceLeDiff, Nat.reduceLT, Nat.reduceEqDiff, Nat.reduceMul, Nat.add_left_cancel_iff, not_false_eq_true, i10, Bool.false_eq_true, z01, ne_eq, not_true_eq_false, not_false_eq_true, or_self, true_or, or_true, false_or, or_false]
      · obtain ⟨-, -, rd', h46', hr'⟩ := hm4
        exact ⟨rd', (n5 46 (by decide)).trans h46', hr'⟩
    · have c8 : (8 : Int32) ≤ nI (n + 1) := by rw [show n + 1 = 8 by omega]; decide
      refine ⟨g4, e, fun Q => ?_, hel, rfl, hm4, n4, s4⟩
      rw [qM_readHouses_4]
      simp only [qM_readHouses_20, jM_readHouses_20, qM_readHouses_27, jM_readHouses_27, qM_readHouses_44, jM_readHouses_44, qM_readHouses_45, jM_readHouses_45, qM_readHouses_64, jM_readHouses_64, qM_readHouses_65, jM_readHouses_65, qM_readHouses_116, jM_readHouses_116, qM_readHouses_117, jM_readHouses_117, jM_readHouses_4, w0, w1, w2i, w2r, w3, w4, w5_0, w5_1, w5_2, w5_3, w5_4, w5_5, w5_6, w5_7, w5_8, w6_0, w6_1, w7_0, w7_1, w7_2, w7_3, w7_4, w7_5, w8_0, w8_1, w9_0, w9_1, w9_2, w10_0, w10_1, w10_2, w10_3, w10_4, w10_5, w11, w12_0, w12_1, w12_2, w12_3, w12_4, w12_5, w13_0, w13_1, w13_2, w13_3, w13_4, w13_5, w14, w15i, w15r, w16, w17, w18, w19i, w19z, w19l, w20, w21, w22, w23, w24, w25, w26, w27, w28_1, w28_2, w28_3, w28_4, w28_5, w28_6, w29, w30i, w30z, w31, w32, w33, w34, w35, w36, w37_1, w37_2, w37_3, w37_4, w37_5, w37_6, isO_O, set1_0, set1_1i, set1_1r, set1_1n, set1_1l, set1_s, set2_0, set2_1i, set2_1r, set2_1n, set2_1l, set2_s, ldv_i, ldv_l, ldv_r, ldv_s, ldi_i, ldi_s, fK_0, fK_s, gfc_O, fS_0, fS_s, uH_s, uH_n, uH_u, tl_s, tl_n, b1_0, b1_1, ite_true, ite_false, if_true, if_false, List.length_nil, List.length_cons, Nat.zero_le, Nat.zero_add, Nat.reduceAdd, Nat.reduceLeDiff, Nat.reduceLT, Nat.reduceEqDiff, Nat.reduceMul, Nat.add_left_cancel_iff, not_false_eq_true, i10, Bool.false_eq_true, z01, ne_eq, not_true_eq_false, not_false_eq_true, or_self, true_or, or_true, false_or, or_false, h39, k1, M_kv, ← hkk, kge, d39, pfc_O, nI_1, n2m, d46, wq16, ← e2, f39, k3, i39, i46, wq17, ← e4, c8]
      rw [qM_readHouses_4]
      simp only [qM_readHouses_121, jM_readHouses_121, w0, w1, w2i, w2r, w3, w4, w5_0, w5_1, w5_2, w5_3, w5_4, w5_5, w5_6, w5_7, w5_8, w6_0, w6_1, w7_0, w7_1, w7_2, w7_3, w7_4, w7_5, w8_0, w8_1, w9_0, w9_1, w9_2, w10_0, w10_1, w10_2, w10_3, w10_4, w10_5, w11, w12_0, w12_1, w12_2, w12_3, w12_4, w12_5, w13_0, w13_1, w13_2, w13_3, w13_4, w13_5, w14, w15i, w15r, w16, w17, w18, w19i, w19z, w19l, w20, w21, w22, w23, w24, w25, w26, w27, w28_1, w28_2, w28_3, w28_4, w28_5, w28_6, w29, w30i, w30z, w31, w32, w33, w34, w35, w36, w37_1, w37_2, w37_3, w37_4, w37_5, w37_6, isO_O, set1_0, set1_1i, set1_1r, set1_1n, set1_1l, set1_s, set2_0, set2_1i, set2_1r, set2_1n, set2_1l, set2_s, ldv_i, ldv_l, ldv_r, ldv_s, ldi_i, ldi_s, fK_0, fK_s, gfc_O, fS_0, fS_s, uH_s, uH_n, uH_u, tl_s, tl_n, b1_0, b1_1, ite_true, ite_false, if_true, if_false, List.length_nil, List.length_cons, Nat.zero_le, Nat.zero_add, Nat.reduceAdd, Nat.reduceLeDiff, Nat.reduceLT, Nat.reduceEqDiff, Nat.reduceMul, Nat.add_left_cancel_iff, not_false_eq_true, i10, Bool.false_eq_true, z01, ne_eq, not_true_eq_false, not_false_eq_true, or_self, true_or, or_true, false_or, or_false]
  -- the class's run up to the sign
  have CX : ∀ (h : AH) (x3 x4 x5 : Option Value), HC l bt pu3 ye3 n p K A h → ∃ h5 : AH, (∀ Q, Wp none 16 qP_readHouses_2 [some (.ref 26), some (.ref 15), some (.int (nI n)), x3, x4, x5] [] h Q = (if sgC tb l (sk tb l e) = -1 then Q (some (.int 0)) h5 else if sgC tb l (sk tb l e) = 59 then Q (some (.int 0)) h5 else if ¬ sgC tb l (sk tb l e) = 44 then Q (some (.int (-20 - nI (sk tb l e)))) h5 else if ¬ n = 7 then Wp none 16 qP_readHouses_2 [some (.ref 26), some (.ref 15), some (.int (nI (n + 1))), some (.int k), some (.int (nI v)), some (.int (sgC tb l (sk tb l e)))] [] (uH h5 26 (aO 2 [.ref 27, .int (nI l), .int (nI (sk tb l e + 1))])) Q else Q (some (.int (-20 - nI (sk tb l e)))) h5)) ∧ HC l bt pu3 ye3 (n + 1) (sk tb l e) (upd K n k) (upd A n (nI v)) h5 ∧ NS [15, 16, 17, 18, 19, 26] h h5 ∧ (Sh h → Sh h5) := by
    intro h x3 x4 x5 hc
    have h26 := hc.2.2.1
    obtain ⟨h1, h2, h3, h4, h5, k1, d26, e2, f26, k3, g15, k4, i26, k5, hc5, n5, s5⟩ := CR h hc
    have j26 := hc5.2.2.1
    refine ⟨h5, fun Q => ?_, hc5, n5, s5⟩
    have e7 : (nI n = 7) = (n = 7) := propext (nI_eq (b := 7) (by omega) (by decide))
    conv => lhs; rw [qP_readHouses_2]
    simp only [qP_readHouses_27, jP_readHouses_27, qP_readHouses_55, jP_readHouses_55, qP_readHouses_82, jP_readHouses_82, qP_readHouses_84, jP_readHouses_84, qP_readHouses_97, jP_readHouses_97, qP_readHouses_102, jP_readHouses_102, jP_readHouses_2, w0, w1, w2i, w2r, w3, w4, w5_0, w5_1, w5_2, w5_3, w5_4, w5_5, w5_6, w5_7, w5_8, w6_0, w6_1, w7_0, w7_1, w7_2, w7_3, w7_4, w7_5, w8_0, w8_1, w9_0, w9_1, w9_2, w10_0, w10_1, w10_2, w10_3, w10_4, w10_5, w11, w12_0, w12_1, w12_2, w12_3, w12_4, w12_5, w13_0, w13_1, w13_2, w13_3, w13_4, w13_5, w14, w15i, w15r, w16, w17, w18, w19i, w19z, w19l, w20, w21, w22, w23, w24, w25, w26, w27, w28_1, w28_2, w28_3, w28_4, w28_5, w28_6, w29, w30i, w30z, w31, w32, w33, w34, w35, w36, w37_1, w37_2, w37_3, w37_4, w37_5, w37_6, isO_O, set1_0, set1_1i, set1_1r, set1_1n, set1_1l, set1_s, set2_0, set2_1i, set2_1r, set2_1n, set2_1l, set2_s, ldv_i, ldv_l, ldv_r, ldv_s, ldi_i, ldi_s, fK_0, fK_s, gfc_O, fS_0, fS_s, uH_s, uH_n, uH_u, tl_s, tl_n, b1_0, b1_1, ite_true, ite_false, if_true, if_false, List.length_nil, List.length_cons, Nat.zero_le, Nat.zero_add, Nat.reduceAdd, Nat.reduceLeDiff, Nat.reduceLT, Nat.reduceEqDiff, Nat.reduceMul, Nat.add_left_cancel_iff, not_false_eq_true, i10, Bool.false_eq_true, z01, ne_eq, not_true_eq_false, not_false_eq_true, or_self, true_or, or_true, false_or, or_false, hc8, h26, k1, P_kv, ← hkk, kne, d26, pfc_2, nI_1, ← e2, f26, k3, dg_ne (show v < 256 by omega), g15, k4, i26, k5, j26, e7, P_fault j26]
    by_cases z : sgC tb l (sk tb l e) = 59
    · simp only [z, not_true_eq_false, if_false, if_true]
    · simp only [z, not_false_eq_true, if_false, if_true]
  have sgr : sk tb l e < l → sgC tb l (sk tb l e) = nI (tb (sk tb l e)) := fun z => if_pos z
  have sgn : ¬ sk tb l e < l → sgC tb l (sk tb l e) = -1 := fun z => if_neg z
  by_cases rl : sk tb l e < l
  rotate_left
  · -- the end
    refine ⟨0, n + 1, sk tb l e, upd K n k, upd A n (nI v), hre.2, fun _ => ⟨Or.inl (by omega), by omega, by omega, hA'⟩, fun z => absurd z (by decide), by decide, fun h x3 x4 x5 hc => ?_, fun g y3 hm => ?_⟩
    · obtain ⟨h5, k5, hc5, n5, s5⟩ := CX h x3 x4 x5 hc
      refine ⟨h5, fun Q => ?_, fun _ => hc5, hc5.2.2.1, n5, s5⟩
      rw [k5 Q, sgn rl, if_pos rfl, if_pos rfl]
    · obtain ⟨g', pm, k', p1, p2, hm', n', s'⟩ := MX (fun z => rl z.2.1) g y3 hm
      exact ⟨g', nI (n + 1), pm, k', fun z => absurd z (by decide), fun _ => ⟨rfl, p1, p2, hm'⟩, n', s'⟩
  have tr := hT.2 _ rl
  have sg := sgr rl
  have m1 : ¬ nI (tb (sk tb l e)) = -1 := nn1 (by omega)
  by_cases r59 : tb (sk tb l e) = 59
  · refine ⟨0, n + 1, sk tb l e, upd K n k, upd A n (nI v), hre.2, fun _ => ⟨Or.inr r59, by omega, by omega, hA'⟩, fun z => absurd z (by decide), by decide, fun h x3 x4 x5 hc => ?_, fun g y3 hm => ?_⟩
    · obtain ⟨h5, k5, hc5, n5, s5⟩ := CX h x3 x4 x5 hc
      refine ⟨h5, fun Q => ?_, fun _ => hc5, hc5.2.2.1, n5, s5⟩
      rw [k5 Q, sg, if_neg m1, if_pos (by rw [r59]; rfl), if_pos rfl]
    · obtain ⟨g', pm, k', p1, p2, hm', n', s'⟩ := MX (fun z => by have := z.2.2; omega) g y3 hm
      exact ⟨g', nI (n + 1), pm, k', fun z => absurd z (by decide), fun _ => ⟨rfl, p1, p2, hm'⟩, n', s'⟩
  have m59 : ¬ nI (tb (sk tb l e)) = 59 := by rw [n59 (by omega)]; exact r59
  by_cases r44 : n + 1 < 8 ∧ tb (sk tb l e) = 44
  · -- on
    have m44 : nI (tb (sk tb l e)) = 44 := by rw [r44.2]; rfl
    obtain ⟨st, n', pos, K', A', o1, o2, o3, o4, oC, oM⟩ := ih r44.1 (sk tb l e + 1) (upd K n k) (upd A n (nI v)) (by omega) hA'
    refine ⟨st, n', pos, K', A', o1, o2, o3, o4, fun h x3 x4 x5 hc => ?_, fun g y3 hm => ?_⟩
    · obtain ⟨h5, k5, hc5, n5, s5⟩ := CX h x3 x4 x5 hc
      obtain ⟨h6, e6, f26, n6, s6⟩ : ∃ q : AH, q = uH h5 26 (aO 2 [.ref 27, .int (nI l), .int (nI (sk tb l e + 1))]) ∧ q 26 = aO 2 [.ref 27, .int (nI l), .int (nI (sk tb l e + 1))] ∧ NS [26] h5 q ∧ (Sh h5 → Sh q) := ⟨_, rfl, uH_s _ _ _, NS.r.u (by decide), fun z => sh_26 z⟩
      obtain ⟨c15, ⟨ki, as, ow, ca, c16, c17, c18, c19, hk⟩, c26, c27⟩ := hc5
      obtain ⟨h7, k7, hc7, c7, n7, s7⟩ := oC h6 (some (.int k)) (some (.int (nI v))) (some (.int (nI (tb (sk tb l e))))) ⟨(n6 15 (by decide)).trans c15, ⟨ki, as, ow, ca, (n6 16 (by decide)).trans c16, (n6 17 (by decide)).trans c17, (n6 18 (by decide)).trans c18, (n6 19 (by decide)).trans c19, hk⟩, f26, (n6 27 (by decide)).trans c27⟩
      refine ⟨h7, fun Q => ?_, hc7, c7, (n5.t (n6.m (by decide))).t n7, fun z => s7 (s6 (s5 z))⟩
      rw [k5 Q, sg, if_neg m1, if_neg m59, if_neg (fun z => z m44), if_pos (show ¬ n = 7 by omega), ← e6, k7 Q]
    · have h39 := hm.1
      obtain ⟨g1, g2, g3, g4, rd, k1, d39, d46, e2, f39, k3, i39, i46, e4, hm4, n4, s4⟩ := MS g hm
      have j39 := hm4.1
      have c8 : ¬ (8 : Int32) ≤ nI (n + 1) := nI_ge (b := 8) r44.1 (by decide)
      obtain ⟨g5, k5, l39, n5, s5⟩ := haE (c := 44) hT htp (by decide) hel j39 hm4.2.1 ⟨rl, r44.2⟩
      rw [show nI 44 = 44 from rfl] at k5
      obtain ⟨-, j45, rd', h46', hr'⟩ := hm4
      obtain ⟨g6, z, pm, k6, o5, o6, n6, s6⟩ := oM g5 (some (.int k)) ⟨l39, (n5 45 (by decide)).trans j45, rd', (n5 46 (by decide)).trans h46', hr'⟩
      refine ⟨g6, z, pm, fun Q => ?_, o5, o6, (n4.t (n5.m (by decide))).t n6, fun z => s6 (s5 (s4 z))⟩
      rw [← k6 Q]
      conv => lhs; rw [qM_readHouses_4]
      simp only [qM_readHouses_20, jM_readHouses_20, qM_readHouses_27, jM_readHouses_27, qM_readHouses_44, jM_readHouses_44, qM_readHouses_45, jM_readHouses_45, qM_readHouses_64, jM_readHouses_64, qM_readHouses_65, jM_readHouses_65, qM_readHouses_116, jM_readHouses_116, qM_readHouses_117, jM_readHouses_117, jM_readHouses_4, w0, w1, w2i, w2r, w3, w4, w5_0, w5_1, w5_2, w5_3, w5_4, w5_5, w5_6, w5_7, w5_8, w6_0, w6_1, w7_0, w7_1, w7_2, w7_3, w7_4, w7_5, w8_0, w8_1, w9_0, w9_1, w9_2, w10_0, w10_1, w10_2, w10_3, w10_4, w10_5, w11, w12_0, w12_1, w12_2, w12_3, w12_4, w12_5, w13_0, w13_1, w13_2, w13_3, w13_4, w13_5, w14, w15i, w15r, w16, w17, w18, w19i, w19z, w19l, w20, w21, w22, w23, w24, w25, w26, w27, w28_1, w28_2, w28_3, w28_4, w28_5, w28_6, w29, w30i, w30z, w31, w32, w33, w34, w35, w36, w37_1, w37_2, w37_3, w37_4, w37_5, w37_6, isO_O, set1_0, set1_1i, set1_1r, set1_1n, set1_1l, set1_s, set2_0, set2_1i, set2_1r, set2_1n, set2_1l, set2_s, ldv_i, ldv_l, ldv_r, ldv_s, ldi_i, ldi_s, fK_0, fK_s, gfc_O, fS_0, fS_s, uH_s, uH_n, uH_u, tl_s, tl_n, b1_0, b1_1, ite_true, ite_false, if_true, if_false, List.length_nil, List.length_cons, Nat.zero_le, Nat.zero_add, Nat.reduceAdd, Nat.reduceLeDiff, Nat.reduceLT, Nat.reduceEqDiff, Nat.reduceMul, Nat.add_left_cancel_iff, not_false_eq_true, i10, Bool.false_eq_true, z01, ne_eq, not_true_eq_false, not_false_eq_true, or_self, true_or, or_true, false_or, or_false, h39, k1, M_kv, ← hkk, kge, d39, pfc_O, nI_1, n2m, d46, wq16, ← e2, f39, k3, i39, i46, wq17, ← e4, c8, j39, k5]
  · -- a sign that can't stand there
    refine ⟨2, n + 1, sk tb l e, upd K n k, upd A n (nI v), hre.2, fun z => absurd z (by decide), fun _ => ⟨rl, r59⟩, by decide, fun h x3 x4 x5 hc => ?_, fun g y3 hm => ?_⟩
    · obtain ⟨h5, k5, hc5, n5, s5⟩ := CX h x3 x4 x5 hc
      refine ⟨h5, fun Q => ?_, fun z => absurd z (by decide), hc5.2.2.1, n5, s5⟩
      rw [k5 Q, sg, if_neg m1, if_neg m59, if_neg (show ¬ 2 = 0 by decide)]
      by_cases m44 : nI (tb (sk tb l e)) = 44
      · have r7 : n = 7 := by
          have : tb (sk tb l e) = 44 := by rw [n44 (by omega)] at m44; exact m44
          have : ¬ n + 1 < 8 := fun z => r44 ⟨z, this⟩
          omega
        rw [if_neg (fun z => z m44), if_neg (fun z => z r7)]
      · rw [if_pos m44]
    · obtain ⟨g', pm, k', p1, p2, hm', n', s'⟩ := MX (fun z => r44 ⟨z.1, z.2.2⟩) g y3 hm
      exact ⟨g', nI (n + 1), pm, k', fun z => absurd z (by decide), fun _ => ⟨rfl, p1, p2, hm'⟩, n', s'⟩
theorem houses {tb : Nat → Nat} {l : Nat} {bt tp : Nat → Int32} {pu3 ye3 ho pu ye bo : Int32} {be : Int64} {kn pr im : Int32} (hT : Tb tb l) (hbt : ∀ k, k < l → bt k = nI (tb k)) (htp : ∀ k, k < l → tp k = nI (tb k)) : ∀ (d n p : Nat) (K A : Nat → Int32), n + (d + 1) = 8 → p ≤ l → (∀ a, a < n → 0 ≤ (A a).toInt ∧ (A a).toInt ≤ 99) → HO tb l bt tp pu3 ye3 ho pu ye bo be kn pr im n p K A := by
  intro d
  induction d with
  | zero =>
    intro n p K A hn hp hA
    exact houses_step hT hbt htp n p K A (by omega) hp hA (fun h => absurd h (by omega))
  | succ d ih =>
    intro n p K A hn hp hA
    exact houses_step hT hbt htp n p K A (by omega) hp hA (fun _ p' K' A' hp' hA' => ih (n + 1) p' K' A' (by omega) hp' hA')

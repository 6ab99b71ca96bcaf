/-! the pair: town -/
theorem clF_val {sh : Nat → Int32} : ∀ n k, clF sh n k = if k < n then 0 else sh k
  | 0, k => by rw [if_neg (by omega)]; rfl
  | n + 1, k => by
    show upd (clF sh n) n 0 k = _
    by_cases e : k = n
    · rw [e, upd_s, if_pos (by omega)]
    · rw [upd_n e, clF_val n k]
      by_cases c : k < n
      · rw [if_pos c, if_pos (by omega)]
      · rw [if_neg c, if_neg (by omega)]
theorem IV_0 {n : Nat} {sh rs : Nat → Int32} (h1 : ∀ k, k < 64 → sh k = 0) (h2 : ∀ k, k < 64 → rs k = -4) : IV n 0 sh rs := by
  refine ⟨fun a b ha hb => Or.inl ⟨h2 _ (by omega), h1 _ (by omega), fun _ z => ?_⟩, fun a b ha hb => ⟨by rw [h2 _ (by omega), h2 _ (by omega)], by rw [h1 _ (by omega), h1 _ (by omega)]⟩⟩
  unfold bL at z
  rw [show (0 : Int64).toBitVec = 0#64 from rfl, BitVec.getLsbD_zero] at z
  cases z
section TOWNM
variable {Q : Option Value → AH → Prop} {ho pu ye bo ta ax wr : Int32} {be : Int64} {kn pr im : Int32} {rs sh : Nat → Int32} {x2 : Option Value}
theorem M_town_fill : ∀ (d i : Nat) (h : AH), i + d = 64 → h 39 = mO ho pu ye bo ta ax wr be kn pr im → h 47 = aI 64 (fa_fill (fun _ => -4) rs i) → Wp none 110 qM_town_12 [some (.ref 39), some (.int (nI i)), x2] [] h Q = Wp none 110 qM_town_32 [some (.ref 39), some (.int (nI 64)), x2] [] (uH h 47 (aI 64 (fa_fill (fun _ => -4) rs 64))) Q := by
  intro d
  induction d with
  | zero =>
    intro i h hi h39 h47
    have e : i = 64 := by omega
    subst e
    have hc : (64 : Int32) ≤ nI 64 := by decide
    rw [qM_town_12]
    simp only [jM_town_32, w0, w1, w2i, w2r, w3, w4, w5_0, w5_1, w5_2, w5_3, w5_4, w5_5, w5_6, w5_7, w5_8, w6_0, w6_1, w7_0, w7_1, w7_2, w7_3, w7_4, w7_5, w8_0, w8_1, w9_0, w9_1, w9_2, w10_0, w10_1, w10_2, w10_3, w10_4, w10_5, w11, w12_0, w12_1, w12_2, w12_3, w12_4, w12_5, w13_0, w13_1, w13_2, w13_3, w13_4, w13_5, w14, w15i, w15r, w16, w17, w18, w19i, w19z, w19l, w20, w21, w22, w23, w24, w25, w26, w27, w28_1, w28_2, w28_3, w28_4, w28_5, w28_6, w29, w30i, w30z, w31, w32, w33, w34, w35, w36, w37_1, w37_2, w37_3, w37_4, w37_5, w37_6, isO_O, set1_0, set1_1i, set1_1r, set1_1n, set1_1l, set1_s, set2_0, set2_1i, set2_1r, set2_1n, set2_1l, set2_s, ldv_i, ldv_l, ldv_r, ldv_s, ldi_i, ldi_s, fK_0, fK_s, gfc_O, fS_0, fS_s, uH_s, uH_n, uH_u, tl_s, tl_n, b1_0, b1_1, ite_true, ite_false, if_true, if_false, List.length_nil, List.length_cons, Nat.zero_le, Nat.zero_add, Nat.reduceAdd, Nat.reduceLeDiff, Nat.reduceLT, Nat.reduceEqDiff, Nat.reduceMul, Nat.add_left_cancel_iff, not_false_eq_true, hc]
    rw [uH_id h h47]
  | succ d ih =>
    intro i h hi h39 h47
    have hc : ¬ (64 : Int32) ≤ nI i := nI_ge (b := 64) (by omega) (by decide)
    have fs := fill_s (F := fun _ => (-4 : Int32)) (g := rs) (i := i) rfl
    rw [qM_town_12]
    simp only [w0, w1, w2i, w2r, w3, w4, w5_0, w5_1, w5_2, w5_3, w5_4, w5_5, w5_6, w5_7, w5_8, w6_0, w6_1, w7_0, w7_1, w7_2, w7_3, w7_4, w7_5, w8_0, w8_1, w9_0, w9_1, w9_2, w10_0, w10_1, w10_2, w10_3, w10_4, w10_5, w11, w12_0, w12_1, w12_2, w12_3, w12_4, w12_5, w13_0, w13_1, w13_2, w13_3, w13_4, w13_5, w14, w15i, w15r, w16, w17, w18, w19i, w19z, w19l, w20, w21, w22, w23, w24, w25, w26, w27, w28_1, w28_2, w28_3, w28_4, w28_5, w28_6, w29, w30i, w30z, w31, w32, w33, w34, w35, w36, w37_1, w37_2, w37_3, w37_4, w37_5, w37_6, isO_O, set1_0, set1_1i, set1_1r, set1_1n, set1_1l, set1_s, set2_0, set2_1i, set2_1r, set2_1n, set2_1l, set2_s, ldv_i, ldv_l, ldv_r, ldv_s, ldi_i, ldi_s, fK_0, fK_s, gfc_O, fS_0, fS_s, uH_s, uH_n, uH_u, tl_s, tl_n, b1_0, b1_1, ite_true, ite_false, if_true, if_false, List.length_nil, List.length_cons, Nat.zero_le, Nat.zero_add, Nat.reduceAdd, Nat.reduceLeDiff, Nat.reduceLT, Nat.reduceEqDiff, Nat.reduceMul, Nat.add_left_cancel_iff, not_false_eq_true, h39, h47, hc, jM_town_12, nI_1, wIc_n (show i < 64 by omega) (show 64 < 2 ^ 31 by decide), fs]
    rw [ih (i + 1) _ (by omega) (by rw [uH_n _ _ (by omega)]; exact h39) (by rw [uH_s]), uH_u]
theorem M_town_sh {n : Int32} : ∀ (d i : Nat) (h : AH), i + d = 64 → h 39 = mO ho pu ye bo ta ax wr be kn pr im → h 47 = aI 64 rs → h 44 = aI 64 (fa_fill (fun k => if rs k ≤ 0 then sh k else rs k) sh i) → Wp none 110 qM_town_136 [some (.ref 39), some (.int n), some (.int (nI i))] [] h Q = Q (some (.int n)) (uH h 44 (aI 64 (fa_fill (fun k => if rs k ≤ 0 then sh k else rs k) sh 64))) := by
  intro d
  induction d with
  | zero =>
    intro i h hi h39 h47 h44
    have e : i = 64 := by omega
    subst e
    have hc : (64 : Int32) ≤ nI 64 := by decide
    simp only [qM_town_136, qM_town_169, jM_town_169, w0, w1, w2i, w2r, w3, w4, w5_0, w5_1, w5_2, w5_3, w5_4, w5_5, w5_6, w5_7, w5_8, w6_0, w6_1, w7_0, w7_1, w7_2, w7_3, w7_4, w7_5, w8_0, w8_1, w9_0, w9_1, w9_2, w10_0, w10_1, w10_2, w10_3, w10_4, w10_5, w11, w12_0, w12_1, w12_2, w12_3, w12_4, w12_5, w13_0, w13_1, w13_2, w13_3, w13_4, w13_5, w14, w15i, w15r, w16, w17, w18, w19i, w19z, w19l, w20, w21, w22, w23, w24, w25, w26, w27, w28_1, w28_2, w28_3, w28_4, w28_5, w28_6, w29, w30i, w30z, w31, w32, w33, w34, w35, w36, w37_1, w37_2, w37_3, w37_4, w37_5, w37_6, isO_O, set1_0, set1_1i, set1_1r, set1_1n, set1_1l, set1_s, set2_0, set2_1i, set2_1r, set2_1n, set2_1l, set2_s, ldv_i, ldv_l, ldv_r, ldv_s, ldi_i, ldi_s, fK_0, fK_s, gfc_O, fS_0, fS_s, uH_s, uH_n, uH_u, tl_s, tl_n, b1_0, b1_1, ite_true, ite_false, if_true, if_false, List.length_nil, List.length_cons, Nat.zero_le, Nat.zero_add, Nat.reduceAdd, Nat.reduceLeDiff, Nat.reduceLT, Nat.reduceEqDiff, Nat.reduceMul, Nat.add_left_cancel_iff, not_false_eq_true, hc]
    rw [uH_id h h44]
  | succ d ih =>
    intro i h hi h39 h47 h44
    have hc : ¬ (64 : Int32) ≤ nI i := nI_ge (b := 64) (by omega) (by decide)
    rw [qM_town_136]
    by_cases z : rs i ≤ 0
    · have fs := fill_s (F := fun k => if rs k ≤ 0 then sh k else rs k) (g := sh) (i := i) (y := sh i) (if_pos z)
      rw [fa_upd_same (fa_fill_out (Nat.le_refl i))] at fs
      simp only [qM_town_163, jM_town_163, jM_town_136, w0, w1, w2i, w2r, w3, w4, w5_0, w5_1, w5_2, w5_3, w5_4, w5_5, w5_6, w5_7, w5_8, w6_0, w6_1, w7_0, w7_1, w7_2, w7_3, w7_4, w7_5, w8_0, w8_1, w9_0, w9_1, w9_2, w10_0, w10_1, w10_2, w10_3, w10_4, w10_5, w11, w12_0, w12_1, w12_2, w12_3, w12_4, w12_5, w13_0, w13_1, w13_2, w13_3, w13_4, w13_5, w14, w15i, w15r, w16, w17, w18, w19i, w19z, w19l, w20, w21, w22, w23, w24, w25, w26, w27, w28_1, w28_2, w28_3, w28_4, w28_5, w28_6, w29, w30i, w30z, w31, w32, w33, w34, w35, w36, w37_1, w37_2, w37_3, w37_4, w37_5, w37_6, isO_O, set1_0, set1_1i, set1_1r, set1_1n, set1_1l, set1_s, set2_0, set2_1i, set2_1r, set2_1n, set2_1l, set2_s, ldv_i, ldv_l, ldv_r, ldv_s, ldi_i, ldi_s, fK_0, fK_s, gfc_O, fS_0, fS_s, uH_s, uH_n, uH_u, tl_s, tl_n, b1_0, b1_1, ite_true, ite_false, if_true, if_false, List.length_nil, List.length_cons, Nat.zero_le, Nat.zero_add, Nat.reduceAdd, Nat.reduceLeDiff, Nat.reduceLT, Nat.reduceEqDiff, Nat.reduceMul, Nat.add_left_cancel_iff, not_false_eq_true, i10, Bool.false_eq_true, z01, ne_eq, not_true_eq_false, not_false_eq_true, or_self, true_or, or_true, false_or, or_false, h39, h47, hc, nI_1, rIc_n (show i < 64 by omega) (show 64 < 2 ^ 31 by decide), z]
      rw [ih (i + 1) h (by omega) h39 h47 (by rw [← fs]; exact h44)]
    · have fs := fill_s (F := fun k => if rs k ≤ 0 then sh k else rs k) (g := sh) (i := i) (y := rs i) (if_neg z)
      simp only [qM_town_163, jM_town_163, jM_town_136, w0, w1, w2i, w2r, w3, w4, w5_0, w5_1, w5_2, w5_3, w5_4, w5_5, w5_6, w5_7, w5_8, w6_0, w6_1, w7_0, w7_1, w7_2, w7_3, w7_4, w7_5, w8_0, w8_1, w9_0, w9_1, w9_2, w10_0, w10_1, w10_2, w10_3, w10_4, w10_5, w11, w12_0, w12_1, w12_2, w12_3, w12_4, w12_5, w13_0, w13_1, w13_2, w13_3, w13_4, w13_5, w14, w15i, w15r, w16, w17, w18, w19i, w19z, w19l, w20, w21, w22, w23, w24, w25, w26, w27, w28_1, w28_2, w28_3, w28_4, w28_5, w28_6, w29, w30i, w30z, w31, w32, w33, w34, w35, w36, w37_1, w37_2, w37_3, w37_4, w37_5, w37_6, isO_O, set1_0, set1_1i, set1_1r, set1_1n, set1_1l, set1_s, set2_0, set2_1i, set2_1r, set2_1n, set2_1l, set2_s, ldv_i, ldv_l, ldv_r, ldv_s, ldi_i, ldi_s, fK_0, fK_s, gfc_O, fS_0, fS_s, uH_s, uH_n, uH_u, tl_s, tl_n, b1_0, b1_1, ite_true, ite_false, if_true, if_false, List.length_nil, List.length_cons, Nat.zero_le, Nat.zero_add, Nat.reduceAdd, Nat.reduceLeDiff, Nat.reduceLT, Nat.reduceEqDiff, Nat.reduceMul, Nat.add_left_cancel_iff, not_false_eq_true, i10, Bool.false_eq_true, z01, ne_eq, not_true_eq_false, not_false_eq_true, or_self, true_or, or_true, false_or, or_false, h39, h47, h44, hc, nI_1, rIc_n (show i < 64 by omega) (show 64 < 2 ^ 31 by decide), wIc_n (show i < 64 by omega) (show 64 < 2 ^ 31 by decide), z, fs]
      rw [ih (i + 1) _ (by omega) (by rw [uH_n _ _ (by omega)]; exact h39) (by rw [uH_n _ _ (by omega)]; exact h47) (by rw [uH_s]), uH_u]
end TOWNM
theorem M_town_comes {n : Nat} {pu ye bo ta ax wr : Int32} {be : Int64} {kn pr im : Int32} {rd K A : Nat → Int32} (hn : n ≤ 8) (hr : ∀ a, a < n → rd (2 * a) = K a ∧ rd (2 * a + 1) = A a) : ∀ (d i : Nat) (g : AH) (ki as ow ca sh : Nat → Int32), i + d = n → g 39 = mO (nI i) pu ye bo ta ax wr be kn pr im → g 46 = aI 16 rd → g 40 = aI 8 ki → g 41 = aI 8 as → g 42 = aI 8 ow → g 43 = aI 8 ca → g 44 = aI 64 sh → (∀ a, a < i → ki a = K a ∧ as a = A a ∧ ow a = 0 ∧ ca a = 99) → (∀ a c, a < 8 → c < 8 → (a < i ∨ c < i) → sh (8 * a + c) = 0) → ∃ (g' : AH) (ki' as' ow' ca' sh' : Nat → Int32), (∀ Q, Wp none 110 qM_town_101 [some (.ref 39), some (.int (nI n)), some (.int (nI i))] [] g Q = Wp none 110 qM_town_134 [some (.ref 39), some (.int (nI n)), some (.int (nI n))] [] g' Q) ∧ g' 39 = mO (nI n) pu ye bo ta ax wr be kn pr im ∧ g' 40 = aI 8 ki' ∧ g' 41 = aI 8 as' ∧ g' 42 = aI 8 ow' ∧ g' 43 = aI 8 ca' ∧ g' 44 = aI 64 sh' ∧ (∀ a, a < n → ki' a = K a ∧ as' a = A a ∧ ow' a = 0 ∧ ca' a = 99) ∧ (∀ a c, a < 8 → c < 8 → (a < n ∨ c < n) → sh' (8 * a + c) = 0) ∧ NS [39, 40, 41, 42, 43, 44] g g' ∧ (Sh g → Sh g') := by
  intro d
  induction d with
  | zero =>
    intro i g ki as ow ca sh hi h39 h46 h40 h41 h42 h43 h44 hk hs
    have e : i = n := by omega
    subst e
    have hc : nI i ≤ nI i := nI_le (Nat.le_refl i) (by omega)
    refine ⟨g, ki, as, ow, ca, sh, fun Q => ?_, h39, h40, h41, h42, h43, h44, hk, hs, NS.r, fun z => z⟩
    rw [qM_town_101]
    simp only [jM_town_134, w0, w1, w2i, w2r, w3, w4, w5_0, w5_1, w5_2, w5_3, w5_4, w5_5, w5_6, w5_7, w5_8, w6_0, w6_1, w7_0, w7_1, w7_2, w7_3, w7_4, w7_5, w8_0, w8_1, w9_0, w9_1, w9_2, w10_0, w10_1, w10_2, w10_3, w10_4, w10_5, w11, w12_0, w12_1, w12_2, w12_3, w12_4, w12_5, w13_0, w13_1, w13_2, w13_3, w13_4, w13_5, w14, w15i, w15r, w16, w17, w18, w19i, w19z, w19l, w20, w21, w22, w23, w24, w25, w26, w27, w28_1, w28_2, w28_3, w28_4, w28_5, w28_6, w29, w30i, w30z, w31, w32, w33, w34, w35, w36, w37_1, w37_2, w37_3, w37_4, w37_5, w37_6, isO_O, set1_0, set1_1i, set1_1r, set1_1n, set1_1l, set1_s, set2_0, set2_1i, set2_1r, set2_1n, set2_1l, set2_s, ldv_i, ldv_l, ldv_r, ldv_s, ldi_i, ldi_s, fK_0, fK_s, gfc_O, fS_0, fS_s, uH_s, uH_n, uH_u, tl_s, tl_n, b1_0, b1_1, ite_true, ite_false, if_true, if_false, List.length_nil, List.length_cons, Nat.zero_le, Nat.zero_add, Nat.reduceAdd, Nat.reduceLeDiff, Nat.reduceLT, Nat.reduceEqDiff, Nat.reduceMul, Nat.add_left_cancel_iff, not_false_eq_true, hc]
  | succ d ih =>
    intro i g ki as ow ca sh hi h39 h46 h40 h41 h42 h43 h44 hk hs
    have hc : ¬ nI n ≤ nI i := nI_ge (by omega) (by omega)
    have i8 : i < 8 := by omega
    obtain ⟨g1, k1, d39, d40, d41, d42, d43, d44, n1, s1⟩ : ∃ q : AH, (∀ Q, WpM 89 [.ref 39, .int (K i), .int (A i)] g Q = Q none q) ∧ q 39 = mO (nI (i + 1)) pu ye bo ta ax wr be kn pr im ∧ q 40 = aI 8 (upd ki i (K i)) ∧ q 41 = aI 8 (upd as i (A i)) ∧ q 42 = aI 8 (upd ow i 0) ∧ q 43 = aI 8 (upd ca i 99) ∧ q 44 = aI 64 (pdF sh i 8) ∧ NS [39, 40, 41, 42, 43, 44] g q ∧ (Sh g → Sh q) := by
      refine ⟨_, fun Q => M_comes h39 h40 h41 h42 h43 h44 i8, uH_s _ _ _, ?_, ?_, ?_, ?_, ?_, ?_, fun hS => sh_39 (sh_44 (sh_43 (sh_42 (sh_41 (sh_40 hS)))))⟩
      · simp only [uH_s, uH_n, Nat.reduceEqDiff, not_false_eq_true]
      · simp only [uH_s, uH_n, Nat.reduceEqDiff, not_false_eq_true]
      · simp only [uH_s, uH_n, Nat.reduceEqDiff, not_false_eq_true]
      · simp only [uH_s, uH_n, Nat.reduceEqDiff, not_false_eq_true]
      · simp only [uH_s, uH_n, Nat.reduceEqDiff, not_false_eq_true]
      · exact (((((NS.r.u (by decide)).u (by decide)).u (by decide)).u (by decide)).u (by decide)).u (by decide)
    obtain ⟨g', ki', as', ow', ca', sh', k2, e39, e40, e41, e42, e43, e44, hk', hs', n2, s2⟩ := ih (i + 1) g1 _ _ _ _ _ (by omega) d39 ((n1 46 (by decide)).trans h46) d40 d41 d42 d43 d44 (fun a ha => by
      by_cases z : a = i
      · rw [z, upd_s, upd_s, upd_s, upd_s]; exact ⟨rfl, rfl, rfl, rfl⟩
      · rw [upd_n z, upd_n z, upd_n z, upd_n z]; exact hk a (by omega)) (fun a c ha hc h => by
      rw [pdF_val i8 8 (Nat.le_refl 8) a c ha hc]
      by_cases z : (a = i ∧ c < 8) ∨ (c = i ∧ a < 8)
      · rw [if_pos z]
      · rw [if_neg z]; exact hs a c ha hc (by omega))
    refine ⟨g', ki', as', ow', ca', sh', fun Q => ?_, e39, e40, e41, e42, e43, e44, hk', hs', n1.t n2, fun z => s2 (s1 z)⟩
    rw [← k2 Q]
    conv => lhs; rw [qM_town_101]
    simp only [jM_town_101, w0, w1, w2i, w2r, w3, w4, w5_0, w5_1, w5_2, w5_3, w5_4, w5_5, w5_6, w5_7, w5_8, w6_0, w6_1, w7_0, w7_1, w7_2, w7_3, w7_4, w7_5, w8_0, w8_1, w9_0, w9_1, w9_2, w10_0, w10_1, w10_2, w10_3, w10_4, w10_5, w11, w12_0, w12_1, w12_2, w12_3, w12_4, w12_5, w13_0, w13_1, w13_2, w13_3, w13_4, w13_5, w14, w15i, w15r, w16, w17, w18, w19i, w19z, w19l, w20, w21, w22, w23, w24, w25, w26, w27, w28_1, w28_2, w28_3, w28_4, w28_5, w28_6, w29, w30i, w30z, w31, w32, w33, w34, w35, w36, w37_1, w37_2, w37_3, w37_4, w37_5, w37_6, isO_O, set1_0, set1_1i, set1_1r, set1_1n, set1_1l, set1_s, set2_0, set2_1i, set2_1r, set2_1n, set2_1l, set2_s, ldv_i, ldv_l, ldv_r, ldv_s, ldi_i, ldi_s, fK_0, fK_s, gfc_O, fS_0, fS_s, uH_s, uH_n, uH_u, tl_s, tl_n, b1_0, b1_1, ite_true, ite_false, if_true, if_false, List.length_nil, List.length_cons, Nat.zero_le, Nat.zero_add, Nat.reduceAdd, Nat.reduceLeDiff, Nat.reduceLT, Nat.reduceEqDiff, Nat.reduceMul, Nat.add_left_cancel_iff, not_false_eq_true, i10, Bool.false_eq_true, z01, ne_eq, not_true_eq_false, not_false_eq_true, or_self, true_or, or_true, false_or, or_false, h39, h46, hc, n2m, nI_1, rIc_n (show 2 * i < 16 by omega) (show 16 < 2 ^ 31 by decide), rIc_n (show 2 * i + 1 < 16 by omega) (show 16 < 2 ^ 31 by decide), (hr i (by omega)).1, (hr i (by omega)).2, k1]
theorem F_neg {pos : Nat} (hp : pos ≤ 100) : ¬ (-20 : Int32) - nI pos = 0 ∧ (-20 : Int32) - nI pos ≤ 0 := by
  have e : ((-20 : Int32) - nI pos).toInt = -20 - pos := by
    rw [fb_subI (by rw [nI_toInt (by omega)]; have : (-20 : Int32).toInt = -20 := rfl; omega) (by rw [nI_toInt (by omega)]; have : (-20 : Int32).toInt = -20 := rfl; omega), nI_toInt (by omega)]; rfl
  rw [fa_eq, fa_le, e]
  have : (0 : Int32).toInt = 0 := rfl
  omega
theorem n_pos {n : Nat} (h1 : 1 ≤ n) (h8 : n ≤ 8) : ¬ nI n ≤ 0 := by
  rw [fa_le, nI_toInt (by omega)]
  have : (0 : Int32).toInt = 0 := rfl
  omega
/-- from the reference's last test on, with a fault -/
theorem M_fail {g : AH} {Q : Option Value → AH → Prop} {l pos : Nat} {ho pu ye bo wr : Int32} {be : Int64} {kn pr im : Int32} {x1 x2 : Option Value} (h39 : g 39 = mO ho pu ye bo (nI l) (nI pos) wr be kn pr im) : Wp none 110 qM_town_71 [some (.ref 39), x1, x2] [.int 1, .ref 39] g Q = Q (some (.int (-20 - nI pos))) (uH g 39 (mO ho pu ye bo (nI 0) (nI pos) 1 be kn pr im)) := by
  rw [qM_town_71]
  simp only [w0, w1, w2i, w2r, w3, w4, w5_0, w5_1, w5_2, w5_3, w5_4, w5_5, w5_6, w5_7, w5_8, w6_0, w6_1, w7_0, w7_1, w7_2, w7_3, w7_4, w7_5, w8_0, w8_1, w9_0, w9_1, w9_2, w10_0, w10_1, w10_2, w10_3, w10_4, w10_5, w11, w12_0, w12_1, w12_2, w12_3, w12_4, w12_5, w13_0, w13_1, w13_2, w13_3, w13_4, w13_5, w14, w15i, w15r, w16, w17, w18, w19i, w19z, w19l, w20, w21, w22, w23, w24, w25, w26, w27, w28_1, w28_2, w28_3, w28_4, w28_5, w28_6, w29, w30i, w30z, w31, w32, w33, w34, w35, w36, w37_1, w37_2, w37_3, w37_4, w37_5, w37_6, isO_O, set1_0, set1_1i, set1_1r, set1_1n, set1_1l, set1_s, set2_0, set2_1i, set2_1r, set2_1n, set2_1l, set2_s, ldv_i, ldv_l, ldv_r, ldv_s, ldi_i, ldi_s, fK_0, fK_s, gfc_O, fS_0, fS_s, uH_s, uH_n, uH_u, tl_s, tl_n, b1_0, b1_1, ite_true, ite_false, if_true, if_false, List.length_nil, List.length_cons, Nat.zero_le, Nat.zero_add, Nat.reduceAdd, Nat.reduceLeDiff, Nat.reduceLT, Nat.reduceEqDiff, Nat.reduceMul, Nat.add_left_cancel_iff, not_false_eq_true, i10, Bool.false_eq_true, z01, ne_eq, not_true_eq_false, not_false_eq_true, or_self, true_or, or_true, false_or, or_false, h39, pfc_O]
  rfl
theorem RR_taped {h h' : AH} {ho pu ye bo ta ax wr : Int32} {be : Int64} {kn pr im ax' wr' : Int32} {be' : Int64} {kn' pr' pt : Int32} (hR : RR h) (hS : Sh h') (hN : NS (26 :: (SC ++ SM)) h h') (c39 : h 39 = mO ho pu ye bo ta ax wr be kn pr im) (d39 : h' 39 = mO ho pu ye bo (nI 0) ax' wr' be' kn' pr' im) (d26 : h' 26 = aO 2 [.ref 27, .int (nI 0), .int pt]) : RR h' := by
  obtain ⟨-, v1, v2, v3, v4⟩ := hR
  have k1 : ∀ q, q ∈ L1 → q ∉ 26 :: (SC ++ SM) := by decide
  have k2 : ∀ q, q ∈ L2 → q ∉ 26 :: (SC ++ SM) := by decide
  have k4 : ∀ q, q ∈ L4 → q ∉ 26 :: (SC ++ SM) := by decide
  refine ⟨hS, V1_ag (fun q hq => hN q (k1 q hq)) ?_ ?_ ?_ ?_ v1, V2_ag (fun q hq => hN q (k2 q hq)) ?_ v2, ?_, V4_ag (fun q hq => hN q (k4 q hq)) v4⟩
  · rw [c39, d39]; rfl
  · rw [c39, d39]; rfl
  · rw [c39, d39]; rfl
  · rw [c39, d39]; rfl
  · rw [c39, d39]; rfl
  · unfold V3
    rw [d26, d39]
    exact ⟨0, rfl, rfl, by decide, fun k hk => absurd hk (by omega)⟩

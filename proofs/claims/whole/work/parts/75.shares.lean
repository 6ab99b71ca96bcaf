/-! the shares of a text, on both sides -/
def pp (a b : Nat) : Nat := 8 * (if b < a then b else a) + (if a < b then b else a)
theorem pp_eq : ∀ a, a < 8 → ∀ b, b < 8 → (8 : Int32) * (if nI b < nI a then nI b else nI a) + (if nI a < nI b then nI b else nI a) = nI (pp a b) := by decide +kernel
theorem pp_lt : ∀ a, a < 8 → ∀ b, b < 8 → pp a b < 64 := by decide
theorem pp_sym (a b : Nat) : pp a b = pp b a := by
  unfold pp
  by_cases h1 : b < a <;> by_cases h2 : a < b <;> simp [h1, h2] <;> omega
theorem pp_inj : ∀ a, a < 8 → ∀ b, b < 8 → ∀ c, c < 8 → ∀ d, d < 8 → pp a b = pp c d → (a = c ∧ b = d) ∨ (a = d ∧ b = c) := by
  intro a ha b hb c hc d hd h
  unfold pp at h
  by_cases h1 : b < a <;> by_cases h2 : a < b <;> by_cases h3 : d < c <;> by_cases h4 : c < d <;> simp only [h1, h2, h3, h4, if_true, if_false] at h <;> omega
def bL (T : Int64) (q : Nat) : Prop := T.toBitVec.getLsbD q = true
theorem bitT (T : Int64) {q : Nat} (hq : q < 64) : ((T >>> ((nI q).toInt64 &&& 63)) &&& 1 = 1) = bL T q := by
  have s1 : ∀ q, q < 64 → (((nI q).toInt64 &&& 63).toBitVec.smod 64).toNat = q := by decide +kernel
  have h2 : (T >>> ((nI q).toInt64 &&& 63)).toBitVec = T.toBitVec.sshiftRight q := by
    conv => rhs; rw [← s1 q hq]
    rfl
  unfold bL
  apply propext
  rw [← Int64.toBitVec_inj, Int64.toBitVec_and, h2]
  have one : ∀ i, i < 64 → (1 : Int64).toBitVec.getLsbD i = decide (i = 0) := by decide +kernel
  have b0 : (T.toBitVec.sshiftRight q).getLsbD 0 = T.toBitVec.getLsbD q := by
    rw [BitVec.getLsbD_sshiftRight]
    simp [hq]
  constructor
  · intro h
    have := congrArg (fun x => BitVec.getLsbD x 0) h
    simp only [BitVec.getLsbD_and, one 0 (by decide), b0] at this
    simpa using this
  · intro h
    apply BitVec.eq_of_getLsbD_eq
    intro i hi
    rw [BitVec.getLsbD_and, one i hi]
    by_cases e : i = 0
    · rw [e, b0, h]; rfl
    · simp [e]
theorem setT (T : Int64) {q q' : Nat} (hq : q < 64) (hq' : q' < 64) : bL (T ||| ((1 : Int64) <<< ((nI q).toInt64 &&& 63))) q' ↔ bL T q' ∨ q' = q := by
  have s1 : ∀ q, q < 64 → ∀ q', q' < 64 → ((1 : Int64) <<< ((nI q).toInt64 &&& 63)).toBitVec.getLsbD q' = decide (q' = q) := by decide +kernel
  unfold bL
  rw [Int64.toBitVec_or, BitVec.getLsbD_or, s1 q hq q' hq']
  simp
/-- the told pairs as both have them -/
def IV (n : Nat) (T : Int64) (sh rs : Nat → Int32) : Prop := (∀ a b, a < 8 → b < 8 → (rs (8 * a + b) = -4 ∧ sh (8 * a + b) = 0 ∧ (a ≠ b → ¬ bL T (pp a b))) ∨ (∃ x, x ≤ 2 ∧ rs (8 * a + b) = nI x ∧ sh (8 * a + b) = nI x ∧ bL T (pp a b) ∧ a ≠ b ∧ a < n ∧ b < n)) ∧ ∀ a b, a < 8 → b < 8 → rs (8 * a + b) = rs (8 * b + a) ∧ sh (8 * a + b) = sh (8 * b + a)
theorem IV_step {n a b v : Nat} {T : Int64} {sh rs : Nat → Int32} (h : IV n T sh rs) (hn : n ≤ 8) (ha : a < n) (hb : b < n) (hab : a ≠ b) (hv : v ≤ 2) : IV n (T ||| ((1 : Int64) <<< ((nI (pp a b)).toInt64 &&& 63))) (ps sh a b (nI v)) (ps rs a b (nI v)) := by
  have hp : pp a b < 64 := pp_lt a (by omega) b (by omega)
  refine ⟨fun x y hx hy => ?_, fun x y hx hy => ?_⟩
  · rw [ps_val (by omega) (by omega) hx hy, ps_val (by omega) (by omega) hx hy]
    have hq : pp x y < 64 := pp_lt x hx y hy
    by_cases e : (x = a ∧ y = b) ∨ (x = b ∧ y = a)
    · rw [if_pos e, if_pos e]
      refine Or.inr ⟨v, hv, rfl, rfl, ?_, by omega, by omega, by omega⟩
      rw [setT T hp hq]
      right
      rcases e with ⟨e1, e2⟩ | ⟨e1, e2⟩
      · rw [e1, e2]
      · rw [e1, e2]; exact pp_sym b a
    · rw [if_neg e, if_neg e]
      rcases h.1 x y hx hy with ⟨h1, h2, h3⟩ | ⟨z, h1, h2, h3, h4, h5⟩
      · refine Or.inl ⟨h1, h2, fun ne => ?_⟩
        rw [setT T hp hq]
        rintro (q | q)
        · exact h3 ne q
        · exact e (pp_inj x hx y hy a (by omega) b (by omega) q)
      · refine Or.inr ⟨z, h1, h2, h3, ?_, h5⟩
        rw [setT T hp hq]
        exact Or.inl h4
  · rw [ps_val (by omega) (by omega) hx hy, ps_val (by omega) (by omega) hx hy, ps_val (by omega) (by omega) hy hx, ps_val (by omega) (by omega) hy hx]
    obtain ⟨q1, q2⟩ := h.2 x y hx hy
    by_cases e : (x = a ∧ y = b) ∨ (x = b ∧ y = a)
    · rw [if_pos e, if_pos e, if_pos (by omega), if_pos (by omega)]; exact ⟨rfl, rfl⟩
    · rw [if_neg e, if_neg e, if_neg (by omega), if_neg (by omega)]; exact ⟨q1, q2⟩
def HS (l : Nat) (bt : Nat → Int32) (pu ye : Int32) (n p : Nat) (sh : Nat → Int32) (h : AH) : Prop := h 15 = tO 15 (nI n) pu ye ∧ h 20 = aI 64 sh ∧ h 26 = aO 2 [.ref 27, .int (nI l), .int (nI p)] ∧ h 27 = aB 100 bt
def HT (l : Nat) (tp : Nat → Int32) (ho pu ye bo : Int32) (be : Int64) (kn pr im : Int32) (p : Nat) (rs : Nat → Int32) (g : AH) : Prop := g 39 = mO ho pu ye bo (nI l) (nI p) 0 be kn pr im ∧ g 45 = aI 100 tp ∧ g 47 = aI 64 rs
/-- what becomes of the shares from the k-th on, on both sides -/
def SO2 (tb : Nat → Nat) (l : Nat) (bt tp : Nat → Int32) (pu3 ye3 ho pu ye bo : Int32) (be : Int64) (kn pr im : Int32) (n k p : Nat) (T : Int64) (sh rs : Nat → Int32) : Prop := ∃ (st pos : Nat) (T' : Int64) (sh' rs' : Nat → Int32), pos ≤ l ∧ (st = 0 → pos = l ∧ IV n T' sh' rs') ∧ (st = 2 → pos < l) ∧ st ≤ 2 ∧ (∀ (h : AH) (x5 x6 x7 x8 : Option Value), HS l bt pu3 ye3 n p sh h → ∃ h' : AH, (∀ Q, Wp none 17 qP_readShares_5 [some (.ref 26), some (.ref 15), some (.long T), none, some (.int (nI k)), x5, x6, x7, x8] [] h Q = Q (some (.int (if st = 0 then 0 else -20 - nI pos))) h') ∧ (st = 0 → HS l bt pu3 ye3 n pos sh' h') ∧ h' 26 = aO 2 [.ref 27, .int (nI l), .int (nI pos)] ∧ NS [20, 26] h h' ∧ (Sh h → Sh h')) ∧ (∀ (g : AH) (y4 y5 y6 y7 : Option Value), HT l tp ho pu ye bo be kn pr im p rs g → ∃ (g' : AH) (pm : Nat), (∀ Q, Wp none 109 qM_readPairs_4 [some (.ref 39), some (.int (nI n)), some (.int (nI k)), some (.int 1), y4, y5, y6, y7] [] g Q = Q none g') ∧ (st = 1 → g' 39 = mO ho pu ye bo (nI l) (nI pos) 1 be kn pr im) ∧ (¬ st = 1 → pm ≤ l ∧ sk tb l pm = pos ∧ HT l tp ho pu ye bo be kn pr im pm rs' g') ∧ NS [39, 47] g g' ∧ (Sh g → Sh g'))
section SHARES
variable {tb : Nat → Nat} {l : Nat} {bt tp : Nat → Int32} {pu3 ye3 ho pu ye bo : Int32} {be : Int64} {kn pr im : Int32} {n k p : Nat} {T : Int64} {sh rs : Nat → Int32}
/-- the reference's way out when something was wrong -/
theorem M_out {g : AH} {at' : Int32} {y4 y5 y6 y7 : Option Value} (h39 : g 39 = mO ho pu ye bo (nI l) at' 1 be kn pr im) (hk : k < 12) : ∃ g' : AH, (∀ Q, Wp none 109 qM_readPairs_168 [some (.ref 39), some (.int (nI n)), some (.int (nI k)), some (.int 1), y4, y5, y6, y7] [] g Q = Q none g') ∧ g' 39 = mO ho pu ye bo (nI l) at' 1 be kn pr im ∧ NS [39] g g' ∧ (Sh g → Sh g') := by
  obtain ⟨g5, k5, l39, n5, s5⟩ := haW (c := 44) h39
  by_cases k8 : k + 1 < 12
  · have c8 : ¬ (12 : Int32) ≤ nI (k + 1) := nI_ge (b := 12) k8 (by decide)
    refine ⟨g5, fun Q => ?_, l39, n5, s5⟩
    rw [qM_readPairs_168]
    simp only [qM_readPairs_190, jM_readPairs_190, qM_readPairs_191, jM_readPairs_191, jM_readPairs_4, w0, w1, w2i, w2r, w3, w4, w5_0, w5_1, w5_2, w5_3, w5_4, w5_5, w5_6, w5_7, w5_8, w6_0, w6_1, w7_0, w7_1, w7_2, w7_3, w7_4, w7_5, w8_0, w8_1, w9_0, w9_1, w9_2, w10_0, w10_1, w10_2, w10_3, w10_4, w10_5, w11, w12_0, w12_1, w12_2, w12_3, w12_4, w12_5, w13_0, w13_1, w13_2, w13_3, w13_4, w13_5, w14, w15i, w15r, w16, w17, w18, w19i, w19z, w19l, w20, w21, w22, w23, w24, w25, w26, w27, w28_1, w28_2, w28_3, w28_4, w28_5, w28_6, w29, w30i, w30z, w31, w32, w33, w34, w35, w36, w37_1, w37_2, w37_3, w37_4, w37_5, w37_6, isO_O, set1_0, set1_1i, set1_1r, set1_1n, set1_1l, set1_s, set2_0, set2_1i, set2_1r, set2_1n, set2_1l, set2_s, ldv_i, ldv_l, ldv_r, ldv_s, ldi_i, ldi_s, fK_0, fK_s, gfc_O, fS_0, fS_s, uH_s, uH_n, uH_u, tl_s, tl_n, b1_0, b1_1, ite_true, ite_false, if_true, if_false, List.length_nil, List.length_cons, Nat.zero_le, Nat.zero_add, Nat.reduceAdd, Nat.reduceLeDiff, Nat.reduceLT, Nat.reduceEqDiff, Nat.reduceMul, Nat.add_left_cancel_iff, not_false_eq_true, i10, Bool.false_eq_true, z01, ne_eq, not_true_eq_false, not_false_eq_true, or_self, true_or, or_true, false_or, or_false, nI_1, c8, h39, k5]
    rw [qM_readPairs_4]
    simp only [qM_readPairs_195, jM_readPairs_195, w0, w1, w2i, w2r, w3, w4, w5_0, w5_1, w5_2, w5_3, w5_4, w5_5, w5_6, w5_7, w5_8, w6_0, w6_1, w7_0, w7_1, w7_2, w7_3, w7_4, w7_5, w8_0, w8_1, w9_0, w9_1, w9_2, w10_0, w10_1, w10_2, w10_3, w10_4, w10_5, w11, w12_0, w12_1, w12_2, w12_3, w12_4, w12_5, w13_0, w13_1, w13_2, w13_3, w13_4, w13_5, w14, w15i, w15r, w16, w17, w18, w19i, w19z, w19l, w20, w21, w22, w23, w24, w25, w26, w27, w28_1, w28_2, w28_3, w28_4, w28_5, w28_6, w29, w30i, w30z, w31, w32, w33, w34, w35, w36, w37_1, w37_2, w37_3, w37_4, w37_5, w37_6, isO_O, set1_0, set1_1i, set1_1r, set1_1n, set1_1l, set1_s, set2_0, set2_1i, set2_1r, set2_1n, set2_1l, set2_s, ldv_i, ldv_l, ldv_r, ldv_s, ldi_i, ldi_s, fK_0, fK_s, gfc_O, fS_0, fS_s, uH_s, uH_n, uH_u, tl_s, tl_n, b1_0, b1_1, ite_true, ite_false, if_true, if_false, List.length_nil, List.length_cons, Nat.zero_le, Nat.zero_add, Nat.reduceAdd, Nat.reduceLeDiff, Nat.reduceLT, Nat.reduceEqDiff, Nat.reduceMul, Nat.add_left_cancel_iff, not_false_eq_true, i10, Bool.false_eq_true, z01, ne_eq, not_true_eq_false, not_false_eq_true, or_self, true_or, or_true, false_or, or_false]
  · have c8 : (12 : Int32) ≤ nI (k + 1) := by rw [show k + 1 = 12 by omega]; decide
    refine ⟨g, fun Q => ?_, h39, NS.r, fun z => z⟩
    rw [qM_readPairs_168]
    simp only [qM_readPairs_190, jM_readPairs_190, qM_readPairs_191, jM_readPairs_191, jM_readPairs_4, w0, w1, w2i, w2r, w3, w4, w5_0, w5_1, w5_2, w5_3, w5_4, w5_5, w5_6, w5_7, w5_8, w6_0, w6_1, w7_0, w7_1, w7_2, w7_3, w7_4, w7_5, w8_0, w8_1, w9_0, w9_1, w9_2, w10_0, w10_1, w10_2, w10_3, w10_4, w10_5, w11, w12_0, w12_1, w12_2, w12_3, w12_4, w12_5, w13_0, w13_1, w13_2, w13_3, w13_4, w13_5, w14, w15i, w15r, w16, w17, w18, w19i, w19z, w19l, w20, w21, w22, w23, w24, w25, w26, w27, w28_1, w28_2, w28_3, w28_4, w28_5, w28_6, w29, w30i, w30z, w31, w32, w33, w34, w35, w36, w37_1, w37_2, w37_3, w37_4, w37_5, w37_6, isO_O, set1_0, set1_1i, set1_1r, set1_1n, set1_1l, set1_s, set2_0, set2_1i, set2_1r, set2_1n, set2_1l, set2_s, ldv_i, ldv_l, ldv_r, ldv_s, ldi_i, ldi_s, fK_0, fK_s, gfc_O, fS_0, fS_s, uH_s, uH_n, uH_u, tl_s, tl_n, b1_0, b1_1, ite_true, ite_false, if_true, if_false, List.length_nil, List.length_cons, Nat.zero_le, Nat.zero_add, Nat.reduceAdd, Nat.reduceLeDiff, Nat.reduceLT, Nat.reduceEqDiff, Nat.reduceMul, Nat.add_left_cancel_iff, not_false_eq_true, i10, Bool.false_eq_true, z01, ne_eq, not_true_eq_false, not_false_eq_true, or_self, true_or, or_true, false_or, or_false, nI_1, c8]
    rw [qM_readPairs_4]
    simp only [qM_readPairs_195, jM_readPairs_195, w0, w1, w2i, w2r, w3, w4, w5_0, w5_1, w5_2, w5_3, w5_4, w5_5, w5_6, w5_7, w5_8, w6_0, w6_1, w7_0, w7_1, w7_2, w7_3, w7_4, w7_5, w8_0, w8_1, w9_0, w9_1, w9_2, w10_0, w10_1, w10_2, w10_3, w10_4, w10_5, w11, w12_0, w12_1, w12_2, w12_3, w12_4, w12_5, w13_0, w13_1, w13_2, w13_3, w13_4, w13_5, w14, w15i, w15r, w16, w17, w18, w19i, w19z, w19l, w20, w21, w22, w23, w24, w25, w26, w27, w28_1, w28_2, w28_3, w28_4, w28_5, w28_6, w29, w30i, w30z, w31, w32, w33, w34, w35, w36, w37_1, w37_2, w37_3, w37_4, w37_5, w37_6, isO_O, set1_0, set1_1i, set1_1r, set1_1n, set1_1l, set1_s, set2_0, set2_1i, set2_1r, set2_1n, set2_1l, set2_s, ldv_i, ldv_l, ldv_r, ldv_s, ldi_i, ldi_s, fK_0, fK_s, gfc_O, fS_0, fS_s, uH_s, uH_n, uH_u, tl_s, tl_n, b1_0, b1_1, ite_true, ite_false, if_true, if_false, List.length_nil, List.length_cons, Nat.zero_le, Nat.zero_add, Nat.reduceAdd, Nat.reduceLeDiff, Nat.reduceLT, Nat.reduceEqDiff, Nat.reduceMul, Nat.add_left_cancel_iff, not_false_eq_true, i10, Bool.false_eq_true, z01, ne_eq, not_true_eq_false, not_false_eq_true, or_self, true_or, or_true, false_or, or_false]
/-- from 109 on, when something was wrong -/
theorem M_out2 {g : AH} {at' z4 z5 z6 : Int32} {y7 : Option Value} (h39 : g 39 = mO ho pu ye bo (nI l) at' 1 be kn pr im) (hk : k < 12) : ∃ g' : AH, (∀ Q, Wp none 109 qM_readPairs_109 [some (.ref 39), some (.int (nI n)), some (.int (nI k)), some (.int 1), some (.int z4), some (.int z5), some (.int z6), y7] [.int 1, .ref 39] g Q = Q none g') ∧ g' 39 = mO ho pu ye bo (nI l) at' 1 be kn pr im ∧ NS [39] g g' ∧ (Sh g → Sh g') := by
  have idW : uH g 39 (aO 5 [.int ho, .ref 40, .ref 41, .ref 42, .ref 43, .ref 44, .int pu, .int ye, .int bo, .ref 45, .int (nI l), .int at', .int 1, .ref 46, .ref 47, .ref 48, .ref 49, .ref 50, .long be, .int kn, .int pr, .ref 51, .ref 52, .ref 53, .ref 54, .ref 55, .ref 56, .int im, .ref 57, .ref 58, .ref 59, .ref 60]) = g := uH_id g h39
  obtain ⟨g1, z1, k1, d39, n1, s1⟩ := muW (lo := 61) (hi := 61) h39
  obtain ⟨g2, z2, k2, e39, n2, s2⟩ := muW (lo := 48) (hi := 50) d39
  obtain ⟨g3, k3, f39, n3, s3⟩ := M_out (n := n) (y4 := some (.int z4)) (y5 := some (.int z5)) (y6 := some (.int z6)) (y7 := some (.int z2)) e39 hk
  refine ⟨g3, fun Q => ?_, f39, (n1.t n2).t n3, fun z => s3 (s2 (s1 z))⟩
  rw [← k3 Q, qM_readPairs_109]
  simp only [jM_readPairs_168, w0, w1, w2i, w2r, w3, w4, w5_0, w5_1, w5_2, w5_3, w5_4, w5_5, w5_6, w5_7, w5_8, w6_0, w6_1, w7_0, w7_1, w7_2, w7_3, w7_4, w7_5, w8_0, w8_1, w9_0, w9_1, w9_2, w10_0, w10_1, w10_2, w10_3, w10_4, w10_5, w11, w12_0, w12_1, w12_2, w12_3, w12_4, w12_5, w13_0, w13_1, w13_2, w13_3, w13_4, w13_5, w14, w15i, w15r, w16, w17, w18, w19i, w19z, w19l, w20, w21, w22, w23, w24, w25, w26, w27, w28_1, w28_2, w28_3, w28_4, w28_5, w28_6, w29, w30i, w30z, w31, w32, w33, w34, w35, w36, w37_1, w37_2, w37_3, w37_4, w37_5, w37_6, isO_O, set1_0, set1_1i, set1_1r, set1_1n, set1_1l, set1_s, set2_0, set2_1i, set2_1r, set2_1n, set2_1l, set2_s, ldv_i, ldv_l, ldv_r, ldv_s, ldi_i, ldi_s, fK_0, fK_s, gfc_O, fS_0, fS_s, uH_s, uH_n, uH_u, tl_s, tl_n, b1_0, b1_1, ite_true, ite_false, if_true, if_false, List.length_nil, List.length_cons, Nat.zero_le, Nat.zero_add, Nat.reduceAdd, Nat.reduceLeDiff, Nat.reduceLT, Nat.reduceEqDiff, Nat.reduceMul, Nat.add_left_cancel_iff, not_false_eq_true, i10, Bool.false_eq_true, z01, ne_eq, not_true_eq_false, not_false_eq_true, or_self, true_or, or_true, false_or, or_false, h39, pfc_O, idW, k1, d39, k2, e39]
/-- from behind the two digits on, when something was wrong -/
theorem M_out3 {g : AH} {at' z4 z5 : Int32} {y6 y7 : Option Value} (h39 : g 39 = mO ho pu ye bo (nI l) at' 1 be kn pr im) (hk : k < 12) : ∃ g' : AH, (∀ Q, Wp none 109 qM_readPairs_66 [some (.ref 39), some (.int (nI n)), some (.int (nI k)), some (.int 1), some (.int z4), some (.int z5), y6, y7] [] g Q = Q none g') ∧ g' 39 = mO ho pu ye bo (nI l) at' 1 be kn pr im ∧ NS [39] g g' ∧ (Sh g → Sh g') := by
  have idW : uH g 39 (aO 5 [.int ho, .ref 40, .ref 41, .ref 42, .ref 43, .ref 44, .int pu, .int ye, .int bo, .ref 45, .int (nI l), .int at', .int 1, .ref 46, .ref 47, .ref 48, .ref 49, .ref 50, .long be, .int kn, .int pr, .ref 51, .ref 52, .ref 53, .ref 54, .ref 55, .ref 56, .int im, .ref 57, .ref 58, .ref 59, .ref 60]) = g := uH_id g h39
  obtain ⟨g3, k3, f39, n3, s3⟩ := M_out2 (n := n) (z4 := z4) (z5 := z5) (z6 := 0) (y7 := y7) h39 hk
  refine ⟨g3, fun Q => ?_, f39, n3, s3⟩
  rw [← k3 Q, qM_readPairs_66]
  simp only [qM_readPairs_67, jM_readPairs_67, qM_readPairs_84, jM_readPairs_84, qM_readPairs_88, jM_readPairs_88, qM_readPairs_104, jM_readPairs_104, jM_readPairs_109, w0, w1, w2i, w2r, w3, w4, w5_0, w5_1, w5_2, w5_3, w5_4, w5_5, w5_6, w5_7, w5_8, w6_0, w6_1, w7_0, w7_1, w7_2, w7_3, w7_4, w7_5, w8_0, w8_1, w9_0, w9_1, w9_2, w10_0, w10_1, w10_2, w10_3, w10_4, w10_5, w11, w12_0, w12_1, w12_2, w12_3, w12_4, w12_5, w13_0, w13_1, w13_2, w13_3, w13_4, w13_5, w14, w15i, w15r, w16, w17, w18, w19i, w19z, w19l, w20, w21, w22, w23, w24, w25, w26, w27, w28_1, w28_2, w28_3, w28_4, w28_5, w28_6, w29, w30i, w30z, w31, w32, w33, w34, w35, w36, w37_1, w37_2, w37_3, w37_4, w37_5, w37_6, isO_O, set1_0, set1_1i, set1_1r, set1_1n, set1_1l, set1_s, set2_0, set2_1i, set2_1r, set2_1n, set2_1l, set2_s, ldv_i, ldv_l, ldv_r, ldv_s, ldi_i, ldi_s, fK_0, fK_s, gfc_O, fS_0, fS_s, uH_s, uH_n, uH_u, tl_s, tl_n, b1_0, b1_1, ite_true, ite_false, if_true, if_false, List.length_nil, List.length_cons, Nat.zero_le, Nat.zero_add, Nat.reduceAdd, Nat.reduceLeDiff, Nat.reduceLT, Nat.reduceEqDiff, Nat.reduceMul, Nat.add_left_cancel_iff, not_false_eq_true, i10, Bool.false_eq_true, z01, ne_eq, not_true_eq_false, not_false_eq_true, or_self, true_or, or_true, false_or, or_false, h39, pfc_O, idW]
end SHARES

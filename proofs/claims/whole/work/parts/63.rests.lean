/-! the pair: rests -/
theorem i100 : ((10 : Int32) = 0) = False := eq_false (by decide)
theorem d10 {k : Nat} (hk : k < 100) : nI k / 10 = nI (k / 10) := pk_div (d := 10) (by omega) (by decide) (by decide)
theorem m10 {k : Nat} (hk : k < 100) : nI k - nI (k / 10) * 10 = nI (k % 10) := by
  rw [← pk_rem (d := 10) (a := k) (by omega) (by decide) (by decide), ← d10 hk]; rfl
theorem n10 (k : Nat) : (10 : Int32) * nI k = nI (10 * k) := by rw [show (10 : Int32) = nI 10 from rfl, pk_mul]
theorem n10r (k : Nat) : nI k * 10 = nI (10 * k) := by rw [show (10 : Int32) = nI 10 from rfl, pk_mul, Nat.mul_comm]
theorem n11 (k : Nat) : (11 : Int32) * nI k = nI (11 * k) := by rw [show (11 : Int32) = nI 11 from rfl, pk_mul]
theorem n1100 (k : Nat) : (1100 : Int32) * nI k = nI (1100 * k) := by rw [show (1100 : Int32) = nI 1100 from rfl, pk_mul]
theorem fillL_succ (f g : Nat → Int64) (i : Nat) : vp_updL (fa_fill f g i) i (f i) = fa_fill f g (i + 1) := by
  funext k
  unfold vp_updL fa_fill
  by_cases e : k = i
  · subst e; rw [if_pos rfl, if_pos (by omega)]
  · rw [if_neg e]
    by_cases c : k < i
    · rw [if_pos c, if_pos (by omega)]
    · rw [if_neg c, if_neg (by omega)]
theorem upd4 {f : Nat → Int32} {a b : Nat} {u w u' w' : Int32} (hab : a ≠ b) : upd (upd (upd (upd f a u) b w) a u') b w' = upd (upd f a u') b w' := by
  rw [fa_upd_swap (upd f a u) (fun z => hab z.symm) w u', fa_upd_twice, fa_upd_twice]
/-- what both ask in the k-th try -/
def akk (ak : Nat → Int32) (a b k : Nat) : Nat → Int32 := upd (upd ak a (nI (11 * (k / 10)))) b (nI (11 * (k % 10)))
theorem C_fill_loop {m r o a b : Nat} {ik pu ye : Int32} {be : Int64} {ro fi si : Nat → Int64} {ow ak0 : Nat → Int32} (hr : r < 256) (ho : o < 256) (hm : m ≤ 8) (ha : (andn r o).testBit a = true) (hb : (andn r o).testBit b = true) (ham : a < m) (hbm : b < m) (hab : a ≠ b) : ∀ (d k : Nat) (h : AH) (ab : Nat → Int64) (u w : Int32), k + d = 100 → h 0 = aO 4 [.ref 1, .ref 8, .ref 15, .ref 22, .ref 26, .ref 28, .ref 29, .ref 30, .int ik] → h 1 = tO 1 (nI m) pu ye → h 4 = aI 8 ow → h 22 = rO be (nI r) (nI o) (nI m) → h 23 = aJ 8 ab → h 24 = aI 8 (upd (upd ak0 a u) b w) → h 25 = aJ 72 ro → h 29 = aJ 100 (fa_fill (fun k => icF (ABk ro r o be m (akk ak0 a b k)) r be ow pu (ow a) m) fi k) → h 30 = aJ 100 (fa_fill (fun k => icF (ABk ro r o be m (akk ak0 a b k)) r be ow pu (ow b) m) si k) → (0 ≤ u.toInt ∧ u.toInt ≤ 99) → (0 ≤ w.toInt ∧ w.toInt ≤ 99) → (∀ x, x < m → ab x = ABk ro r o be m (upd (upd ak0 a u) b w) x) → ∃ h' : AH, (∀ Q, Wp none 82 qC_fillIncomes_13 [some (.ref 0), some (.int (nI a)), some (.int (nI b)), some (.int (nI k))] [] h Q = Q none h') ∧ h' 29 = aJ 100 (fa_fill (fun k => icF (ABk ro r o be m (akk ak0 a b k)) r be ow pu (ow a) m) fi 100) ∧ h' 30 = aJ 100 (fa_fill (fun k => icF (ABk ro r o be m (akk ak0 a b k)) r be ow pu (ow b) m) si 100) ∧ NS [23, 24, 29, 30] h h' ∧ (Sh h → Sh h') := by
  have a8 : a < 8 := by omega
  have b8 : b < 8 := by omega
  intro d
  induction d with
  | zero =>
    intro k h ab u w hk h0 h1 h4 h22 h23 h24 h25 h29 h30 hu hw hx
    have e : k = 100 := by omega
    subst e
    have hc : (100 : Int32) ≤ nI 100 := by decide
    refine ⟨h, fun Q => ?_, h29, h30, NS.r, fun z => z⟩
    simp only [qC_fillIncomes_13, qC_fillIncomes_107, jC_fillIncomes_107, w0, w1, w2i, w2r, w3, w4, w5_0, w5_1, w5_2, w5_3, w5_4, w5_5, w5_6, w5_7, w5_8, w6_0, w6_1, w7_0, w7_1, w7_2, w7_3, w7_4, w7_5, w8_0, w8_1, w9_0, w9_1, w9_2, w10_0, w10_1, w10_2, w10_3, w10_4, w10_5, w11, w12_0, w12_1, w12_2, w12_3, w12_4, w12_5, w13_0, w13_1, w13_2, w13_3, w13_4, w13_5, w14, w15i, w15r, w16, w17, w18, w19i, w19z, w19l, w20, w21, w22, w23, w24, w25, w26, w27, w28_1, w28_2, w28_3, w28_4, w28_5, w28_6, w29, w30i, w30z, w31, w32, w33, w34, w35, w36, w37_1, w37_2, w37_3, w37_4, w37_5, w37_6, isO_O, set1_0, set1_1i, set1_1r, set1_1n, set1_1l, set1_s, set2_0, set2_1i, set2_1r, set2_1n, set2_1l, set2_s, ldv_i, ldv_l, ldv_r, ldv_s, ldi_i, ldi_s, fK_0, fK_s, gfc_O, fS_0, fS_s, uH_s, uH_n, uH_u, tl_s, tl_n, b1_0, b1_1, ite_true, ite_false, if_true, if_false, List.length_nil, List.length_cons, Nat.zero_le, Nat.zero_add, Nat.reduceAdd, Nat.reduceLeDiff, Nat.reduceLT, Nat.reduceEqDiff, Nat.reduceMul, Nat.add_left_cancel_iff, not_false_eq_true, hc]
  | succ d ih =>
    intro k h ab u w hk h0 h1 h4 h22 h23 h24 h25 h29 h30 hu hw hx
    have hc : ¬ (100 : Int32) ≤ nI k := nI_ge (b := 100) (by omega) (by decide)
    have k1 : k < 100 := by omega
    have hu' : 0 ≤ (nI (11 * (k / 10))).toInt ∧ (nI (11 * (k / 10))).toInt ≤ 99 := by rw [nI_toInt (by omega)]; omega
    have hw' : 0 ≤ (nI (11 * (k % 10))).toInt ∧ (nI (11 * (k % 10))).toInt ≤ 99 := by rw [nI_toInt (by omega)]; omega
    have pf := fun (Q : Option Value → AH → Prop) => R_reprice (Q := Q) (v := nI (11 * (k / 10))) h22 h23 h24 h25 hr ho hm a8
    obtain ⟨g1, k2, d23, d24, n1, s1⟩ : ∃ q : AH, (∀ Q, WpM 9 [.ref 22, .int (nI a), .int (nI (11 * (k / 10)))] h Q = Q none q) ∧ q 23 = aJ 8 (rpF ab ro r o be a (nI (11 * (k / 10)) - upd (upd ak0 a u) b w a) m) ∧ q 24 = aI 8 (upd (upd (upd ak0 a u) b w) a (nI (11 * (k / 10)))) ∧ NS [23, 24] h q ∧ (Sh h → Sh q) := ⟨_, pf, by rw [uH_n _ _ (by decide)]; exact uH_s _ _ _, uH_s _ _ _, (NS.r.u (by decide)).u (by decide), fun hS => sh_24 (sh_23 hS)⟩
    have ea : upd (upd ak0 a u) b w a = u := by rw [upd_n hab, upd_s]
    have hx2 := rp_AB (v := nI (11 * (k / 10))) ha ham hu' (by rw [ea]; exact hu) hx
    have d22 := (n1 22 (by decide)).trans h22
    have d0 := (n1 0 (by decide)).trans h0
    have pf2 := fun (Q : Option Value → AH → Prop) => R_reprice (Q := Q) (v := nI (11 * (k % 10))) d22 d23 d24 ((n1 25 (by decide)).trans h25) hr ho hm b8
    rw [upd4 hab] at pf2
    have eb : upd (upd (upd ak0 a u) b w) a (nI (11 * (k / 10))) b = w := by rw [upd_n (fun z => hab z.symm), upd_s]
    obtain ⟨g2, k3, e23, e24, n2, s2⟩ : ∃ q : AH, (∀ Q, WpM 9 [.ref 22, .int (nI b), .int (nI (11 * (k % 10)))] g1 Q = Q none q) ∧ q 23 = aJ 8 (rpF (rpF ab ro r o be a (nI (11 * (k / 10)) - upd (upd ak0 a u) b w a) m) ro r o be b (nI (11 * (k % 10)) - upd (upd (upd ak0 a u) b w) a (nI (11 * (k / 10))) b) m) ∧ q 24 = aI 8 (akk ak0 a b k) ∧ NS [23, 24] g1 q ∧ (Sh g1 → Sh q) := ⟨_, pf2, by rw [uH_n _ _ (by decide)]; exact uH_s _ _ _, uH_s _ _ _, (NS.r.u (by decide)).u (by decide), fun hS => sh_24 (sh_23 hS)⟩
    have hx3 := rp_AB (v := nI (11 * (k % 10))) hb hbm hw' (by rw [eb]; exact hw) hx2
    rw [upd4 hab] at hx3
    have n12 : NS [23, 24, 29, 30] h g2 := (n1.m (by decide)).t (n2.m (by decide))
    have e0 := (n12 0 (by decide)).trans h0
    have e1 := (n12 1 (by decide)).trans h1
    have e4 := (n12 4 (by decide)).trans h4
    have e22 := (n12 22 (by decide)).trans h22
    have e29 : g2 29 = aJ 100 (fa_fill (fun k => icF (ABk ro r o be m (akk ak0 a b k)) r be ow pu (ow a) m) fi k) := (n2 29 (by decide)).trans ((n1 29 (by decide)).trans h29)
    have e30 : g2 30 = aJ 100 (fa_fill (fun k => icF (ABk ro r o be m (akk ak0 a b k)) r be ow pu (ow b) m) si k) := (n2 30 (by decide)).trans ((n1 30 (by decide)).trans h30)
    have k4 := fun (Q : Option Value → AH → Prop) => R_incomeAbove (Q := Q) (w := ow a) (t := 1) e22 e23 e1 e4 hr hm
    rw [icF_cong (ow' := ow) (ab' := ABk ro r o be m (akk ak0 a b k)) m (fun x hx => ⟨hx3 x hx, rfl⟩)] at k4
    obtain ⟨g3, q3, f29, n3, s3⟩ : ∃ q : AH, q = uH g2 29 (aJ 100 (fa_fill (fun k => icF (ABk ro r o be m (akk ak0 a b k)) r be ow pu (ow a) m) fi (k + 1))) ∧ q 29 = aJ 100 (fa_fill (fun k => icF (ABk ro r o be m (akk ak0 a b k)) r be ow pu (ow a) m) fi (k + 1)) ∧ NS [29] g2 q ∧ (Sh g2 → Sh q) := ⟨_, rfl, uH_s _ _ _, NS.r.u (by decide), fun hS => sh_29 hS⟩
    have k5 := fun (Q : Option Value → AH → Prop) => R_incomeAbove (Q := Q) (w := ow b) (t := 1) ((n3 22 (by decide)).trans e22) ((n3 23 (by decide)).trans e23) ((n3 1 (by decide)).trans e1) ((n3 4 (by decide)).trans e4) hr hm
    rw [icF_cong (ow' := ow) (ab' := ABk ro r o be m (akk ak0 a b k)) m (fun x hx => ⟨hx3 x hx, rfl⟩)] at k5
    obtain ⟨g4, q4, f30, n4, s4⟩ : ∃ q : AH, q = uH g3 30 (aJ 100 (fa_fill (fun k => icF (ABk ro r o be m (akk ak0 a b k)) r be ow pu (ow b) m) si (k + 1))) ∧ q 30 = aJ 100 (fa_fill (fun k => icF (ABk ro r o be m (akk ak0 a b k)) r be ow pu (ow b) m) si (k + 1)) ∧ NS [30] g3 q ∧ (Sh g3 → Sh q) := ⟨_, rfl, uH_s _ _ _, NS.r.u (by decide), fun hS => sh_30 hS⟩
    have n14 : NS [23, 24, 29, 30] h g4 := (n12.t (n3.m (by decide))).t (n4.m (by decide))
    have n34 : NS [29, 30] g2 g4 := (n3.m (by decide)).t (n4.m (by decide))
    obtain ⟨h3, k6, i29, i30, n5, s5⟩ := ih (k + 1) g4 _ (nI (11 * (k / 10))) (nI (11 * (k % 10))) (by omega) ((n14 0 (by decide)).trans h0) ((n14 1 (by decide)).trans h1) ((n14 4 (by decide)).trans h4) ((n14 22 (by decide)).trans h22) ((n34 23 (by decide)).trans e23) ((n34 24 (by decide)).trans e24) ((n14 25 (by decide)).trans h25) ((n4 29 (by decide)).trans f29) f30 hu' hw' hx3
    refine ⟨h3, fun Q => ?_, i29, i30, n14.t n5, fun z => s5 (s4 (s3 (s2 (s1 z))))⟩
    rw [← k6 Q]
    conv => lhs; rw [qC_fillIncomes_13]
    have l1 := fillL_succ (fun k => icF (ABk ro r o be m (akk ak0 a b k)) r be ow pu (ow a) m) fi k
    have l2 := fillL_succ (fun k => icF (ABk ro r o be m (akk ak0 a b k)) r be ow pu (ow b) m) si k
    have j0 := (n3 0 (by decide)).trans e0
    have j1 := (n3 1 (by decide)).trans e1
    have j4 := (n3 4 (by decide)).trans e4
    have j22 := (n3 22 (by decide)).trans e22
    have j30 := (n3 30 (by decide)).trans e30
    simp only [jC_fillIncomes_13, w0, w1, w2i, w2r, w3, w4, w5_0, w5_1, w5_2, w5_3, w5_4, w5_5, w5_6, w5_7, w5_8, w6_0, w6_1, w7_0, w7_1, w7_2, w7_3, w7_4, w7_5, w8_0, w8_1, w9_0, w9_1, w9_2, w10_0, w10_1, w10_2, w10_3, w10_4, w10_5, w11, w12_0, w12_1, w12_2, w12_3, w12_4, w12_5, w13_0, w13_1, w13_2, w13_3, w13_4, w13_5, w14, w15i, w15r, w16, w17, w18, w19i, w19z, w19l, w20, w21, w22, w23, w24, w25, w26, w27, w28_1, w28_2, w28_3, w28_4, w28_5, w28_6, w29, w30i, w30z, w31, w32, w33, w34, w35, w36, w37_1, w37_2, w37_3, w37_4, w37_5, w37_6, isO_O, set1_0, set1_1i, set1_1r, set1_1n, set1_1l, set1_s, set2_0, set2_1i, set2_1r, set2_1n, set2_1l, set2_s, ldv_i, ldv_l, ldv_r, ldv_s, ldi_i, ldi_s, fK_0, fK_s, gfc_O, fS_0, fS_s, uH_s, uH_n, uH_u, tl_s, tl_n, b1_0, b1_1, ite_true, ite_false, if_true, if_false, List.length_nil, List.length_cons, Nat.zero_le, Nat.zero_add, Nat.reduceAdd, Nat.reduceLeDiff, Nat.reduceLT, Nat.reduceEqDiff, Nat.reduceMul, Nat.add_left_cancel_iff, not_false_eq_true, i10, Bool.false_eq_true, z01, ne_eq, not_true_eq_false, not_false_eq_true, or_self, true_or, or_true, false_or, or_false, h0, h1, h22, hc, i100, d10 k1, m10 k1, n11, k2, d0, d22, k3, e0, e1, e4, e22, e29, rIc_n a8 (show 8 < 2 ^ 31 by decide), rIc_n b8 (show 8 < 2 ^ 31 by decide), k4, wJc_n (show k < 100 by omega) (show 100 < 2 ^ 31 by decide), l1, ← q3, j0, j1, j4, j22, j30, k5, l2, ← q4, nI_1]
/-- neither would have more -/
def RsP (f g : Nat → Int64) (k : Nat) (o : Nat) : Prop := f (10 * o + k % 10) ≤ f k ∧ g (10 * (k / 10) + o) ≤ g k
noncomputable def rsI (f g : Nat → Int64) (k : Nat) : Int32 := arI (RsP f g k) 10
section ISREST
variable {h : AH} {Q : Option Value → AH → Prop} {ik : Int32} {f g : Nat → Int64} {k : Nat}
theorem C_isRest_1 (h0 : h 0 = aO 4 [.ref 1, .ref 8, .ref 15, .ref 22, .ref 26, .ref 28, .ref 29, .ref 30, .int ik]) (h29 : h 29 = aJ 100 f) (h30 : h 30 = aJ 100 g) (hk : k < 100) (hP : ∀ o, o < 10 → RsP f g k o) : ∀ (d i : Nat), i + d = 10 → Wp none 83 qC_isRest_13 [some (.ref 0), some (.int (nI k)), some (.int (nI (k / 10))), some (.int (nI (k % 10))), some (.int (nI i))] [] h Q = Q (some (.int 1)) h := by
  intro d
  induction d with
  | zero =>
    intro i hi
    have e : i = 10 := by omega
    subst e
    have hc : (10 : Int32) ≤ nI 10 := by decide
    simp only [qC_isRest_13, qC_isRest_72, jC_isRest_72, w0, w1, w2i, w2r, w3, w4, w5_0, w5_1, w5_2, w5_3, w5_4, w5_5, w5_6, w5_7, w5_8, w6_0, w6_1, w7_0, w7_1, w7_2, w7_3, w7_4, w7_5, w8_0, w8_1, w9_0, w9_1, w9_2, w10_0, w10_1, w10_2, w10_3, w10_4, w10_5, w11, w12_0, w12_1, w12_2, w12_3, w12_4, w12_5, w13_0, w13_1, w13_2, w13_3, w13_4, w13_5, w14, w15i, w15r, w16, w17, w18, w19i, w19z, w19l, w20, w21, w22, w23, w24, w25, w26, w27, w28_1, w28_2, w28_3, w28_4, w28_5, w28_6, w29, w30i, w30z, w31, w32, w33, w34, w35, w36, w37_1, w37_2, w37_3, w37_4, w37_5, w37_6, isO_O, set1_0, set1_1i, set1_1r, set1_1n, set1_1l, set1_s, set2_0, set2_1i, set2_1r, set2_1n, set2_1l, set2_s, ldv_i, ldv_l, ldv_r, ldv_s, ldi_i, ldi_s, fK_0, fK_s, gfc_O, fS_0, fS_s, uH_s, uH_n, uH_u, tl_s, tl_n, b1_0, b1_1, ite_true, ite_false, if_true, if_false, List.length_nil, List.length_cons, Nat.zero_le, Nat.zero_add, Nat.reduceAdd, Nat.reduceLeDiff, Nat.reduceLT, Nat.reduceEqDiff, Nat.reduceMul, Nat.add_left_cancel_iff, not_false_eq_true, hc, b1_1]
  | succ d ih =>
    intro i hi
    have hc : ¬ (10 : Int32) ≤ nI i := nI_ge (b := 10) (by omega) (by decide)
    have p := hP i (by omega)
    have p1 : ¬ f k < f (10 * i + k % 10) := by have := p.1; rw [fa_le64] at this; rw [fa_lt64]; omega
    have p2 : g (10 * (k / 10) + i) ≤ g k := p.2
    rw [qC_isRest_13]
    simp only [qC_isRest_66, jC_isRest_66, jC_isRest_13, w0, w1, w2i, w2r, w3, w4, w5_0, w5_1, w5_2, w5_3, w5_4, w5_5, w5_6, w5_7, w5_8, w6_0, w6_1, w7_0, w7_1, w7_2, w7_3, w7_4, w7_5, w8_0, w8_1, w9_0, w9_1, w9_2, w10_0, w10_1, w10_2, w10_3, w10_4, w10_5, w11, w12_0, w12_1, w12_2, w12_3, w12_4, w12_5, w13_0, w13_1, w13_2, w13_3, w13_4, w13_5, w14, w15i, w15r, w16, w17, w18, w19i, w19z, w19l, w20, w21, w22, w23, w24, w25, w26, w27, w28_1, w28_2, w28_3, w28_4, w28_5, w28_6, w29, w30i, w30z, w31, w32, w33, w34, w35, w36, w37_1, w37_2, w37_3, w37_4, w37_5, w37_6, isO_O, set1_0, set1_1i, set1_1r, set1_1n, set1_1l, set1_s, set2_0, set2_1i, set2_1r, set2_1n, set2_1l, set2_s, ldv_i, ldv_l, ldv_r, ldv_s, ldi_i, ldi_s, fK_0, fK_s, gfc_O, fS_0, fS_s, uH_s, uH_n, uH_u, tl_s, tl_n, b1_0, b1_1, ite_true, ite_false, if_true, if_false, List.length_nil, List.length_cons, Nat.zero_le, Nat.zero_add, Nat.reduceAdd, Nat.reduceLeDiff, Nat.reduceLT, Nat.reduceEqDiff, Nat.reduceMul, Nat.add_left_cancel_iff, not_false_eq_true, h0, h29, h30, hc, n10, nI_add, rJc_n (show 10 * i + k % 10 < 100 by omega) (show 100 < 2 ^ 31 by decide), rJc_n (show 10 * (k / 10) + i < 100 by omega) (show 100 < 2 ^ 31 by decide), rJc_n hk (show 100 < 2 ^ 31 by decide), lg_cmp_gt, lg_cmp_le, p1, p2, nI_1]
    exact ih (i + 1) (by omega)
theorem C_isRest_0 {j : Nat} (h0 : h 0 = aO 4 [.ref 1, .ref 8, .ref 15, .ref 22, .ref 26, .ref 28, .ref 29, .ref 30, .int ik]) (h29 : h 29 = aJ 100 f) (h30 : h 30 = aJ 100 g) (hk : k < 100) (hj : j < 10) (hP : ∀ o, o < j → RsP f g k o) (hn : ¬ RsP f g k j) : ∀ (d i : Nat), i + d = j → Wp none 83 qC_isRest_13 [some (.ref 0), some (.int (nI k)), some (.int (nI (k / 10))), some (.int (nI (k % 10))), some (.int (nI i))] [] h Q = Q (some (.int 0)) h := by
  intro d
  induction d with
  | zero =>
    intro i hi
    have e : i = j := by omega
    subst e
    have hc : ¬ (10 : Int32) ≤ nI i := nI_ge (b := 10) (by omega) (by decide)
    rw [qC_isRest_13]
    by_cases p1 : f k < f (10 * i + k % 10)
    · simp only [qC_isRest_64, jC_isRest_64, w0, w1, w2i, w2r, w3, w4, w5_0, w5_1, w5_2, w5_3, w5_4, w5_5, w5_6, w5_7, w5_8, w6_0, w6_1, w7_0, w7_1, w7_2, w7_3, w7_4, w7_5, w8_0, w8_1, w9_0, w9_1, w9_2, w10_0, w10_1, w10_2, w10_3, w10_4, w10_5, w11, w12_0, w12_1, w12_2, w12_3, w12_4, w12_5, w13_0, w13_1, w13_2, w13_3, w13_4, w13_5, w14, w15i, w15r, w16, w17, w18, w19i, w19z, w19l, w20, w21, w22, w23, w24, w25, w26, w27, w28_1, w28_2, w28_3, w28_4, w28_5, w28_6, w29, w30i, w30z, w31, w32, w33, w34, w35, w36, w37_1, w37_2, w37_3, w37_4, w37_5, w37_6, isO_O, set1_0, set1_1i, set1_1r, set1_1n, set1_1l, set1_s, set2_0, set2_1i, set2_1r, set2_1n, set2_1l, set2_s, ldv_i, ldv_l, ldv_r, ldv_s, ldi_i, ldi_s, fK_0, fK_s, gfc_O, fS_0, fS_s, uH_s, uH_n, uH_u, tl_s, tl_n, b1_0, b1_1, ite_true, ite_false, if_true, if_false, List.length_nil, List.length_cons, Nat.zero_le, Nat.zero_add, Nat.reduceAdd, Nat.reduceLeDiff, Nat.reduceLT, Nat.reduceEqDiff, Nat.reduceMul, Nat.add_left_cancel_iff, not_false_eq_true, h0, h29, h30, hc, n10, nI_add, rJc_n (show 10 * i + k % 10 < 100 by omega) (show 100 < 2 ^ 31 by decide), rJc_n (show 10 * (k / 10) + i < 100 by omega) (show 100 < 2 ^ 31 by decide), rJc_n hk (show 100 < 2 ^ 31 by decide), lg_cmp_gt, lg_cmp_le, p1]
    · have p2 : ¬ g (10 * (k / 10) + i) ≤ g k := fun z => hn ⟨by rw [fa_lt64] at p1; rw [fa_le64]; omega, z⟩
      simp only [qC_isRest_64, jC_isRest_64, w0, w1, w2i, w2r, w3, w4, w5_0, w5_1, w5_2, w5_3, w5_4, w5_5, w5_6, w5_7, w5_8, w6_0, w6_1, w7_0, w7_1, w7_2, w7_3, w7_4, w7_5, w8_0, w8_1, w9_0, w9_1, w9_2, w10_0, w10_1, w10_2, w10_3, w10_4, w10_5, w11, w12_0, w12_1, w12_2, w12_3, w12_4, w12_5, w13_0, w13_1, w13_2, w13_3, w13_4, w13_5, w14, w15i, w15r, w16, w17, w18, w19i, w19z, w19l, w20, w21, w22, w23, w24, w25, w26, w27, w28_1, w28_2, w28_3, w28_4, w28_5, w28_6, w29, w30i, w30z, w31, w32, w33, w34, w35, w36, w37_1, w37_2, w37_3, w37_4, w37_5, w37_6, isO_O, set1_0, set1_1i, set1_1r, set1_1n, set1_1l, set1_s, set2_0, set2_1i, set2_1r, set2_1n, set2_1l, set2_s, ldv_i, ldv_l, ldv_r, ldv_s, ldi_i, ldi_s, fK_0, fK_s, gfc_O, fS_0, fS_s, uH_s, uH_n, uH_u, tl_s, tl_n, b1_0, b1_1, ite_true, ite_false, if_true, if_false, List.length_nil, List.length_cons, Nat.zero_le, Nat.zero_add, Nat.reduceAdd, Nat.reduceLeDiff, Nat.reduceLT, Nat.reduceEqDiff, Nat.reduceMul, Nat.add_left_cancel_iff, not_false_eq_true, h0, h29, h30, hc, n10, nI_add, rJc_n (show 10 * i + k % 10 < 100 by omega) (show 100 < 2 ^ 31 by decide), rJc_n (show 10 * (k / 10) + i < 100 by omega) (show 100 < 2 ^ 31 by decide), rJc_n hk (show 100 < 2 ^ 31 by decide), lg_cmp_gt, lg_cmp_le, p1, p2]
  | succ d ih =>
    intro i hi
    have hc : ¬ (10 : Int32) ≤ nI i := nI_ge (b := 10) (by omega) (by decide)
    have p := hP i (by omega)
    have p1 : ¬ f k < f (10 * i + k % 10) := by have := p.1; rw [fa_le64] at this; rw [fa_lt64]; omega
    have p2 : g (10 * (k / 10) + i) ≤ g k := p.2
    rw [qC_isRest_13]
    simp only [qC_isRest_66, jC_isRest_66, jC_isRest_13, w0, w1, w2i, w2r, w3, w4, w5_0, w5_1, w5_2, w5_3, w5_4, w5_5, w5_6, w5_7, w5_8, w6_0, w6_1, w7_0, w7_1, w7_2, w7_3, w7_4, w7_5, w8_0, w8_1, w9_0, w9_1, w9_2, w10_0, w10_1, w10_2, w10_3, w10_4, w10_5, w11, w12_0, w12_1, w12_2, w12_3, w12_4, w12_5, w13_0, w13_1, w13_2, w13_3, w13_4, w13_5, w14, w15i, w15r, w16, w17, w18, w19i, w19z, w19l, w20, w21, w22, w23, w24, w25, w26, w27, w28_1, w28_2, w28_3, w28_4, w28_5, w28_6, w29, w30i, w30z, w31, w32, w33, w34, w35, w36, w37_1, w37_2, w37_3, w37_4, w37_5, w37_6, isO_O, set1_0, set1_1i, set1_1r, set1_1n, set1_1l, set1_s, set2_0, set2_1i, set2_1r, set2_1n, set2_1l, set2_s, ldv_i, ldv_l, ldv_r, ldv_s, ldi_i, ldi_s, fK_0, fK_s, gfc_O, fS_0, fS_s, uH_s, uH_n, uH_u, tl_s, tl_n, b1_0, b1_1, ite_true, ite_false, if_true, if_false, List.length_nil, List.length_cons, Nat.zero_le, Nat.zero_add, Nat.reduceAdd, Nat.reduceLeDiff, Nat.reduceLT, Nat.reduceEqDiff, Nat.reduceMul, Nat.add_left_cancel_iff, not_false_eq_true, h0, h29, h30, hc, n10, nI_add, rJc_n (show 10 * i + k % 10 < 100 by omega) (show 100 < 2 ^ 31 by decide), rJc_n (show 10 * (k / 10) + i < 100 by omega) (show 100 < 2 ^ 31 by decide), rJc_n hk (show 100 < 2 ^ 31 by decide), lg_cmp_gt, lg_cmp_le, p1, p2, nI_1]
    exact ih (i + 1) (by omega)
theorem C_isRest (h0 : h 0 = aO 4 [.ref 1, .ref 8, .ref 15, .ref 22, .ref 26, .ref 28, .ref 29, .ref 30, .int ik]) (h29 : h 29 = aJ 100 f) (h30 : h 30 = aJ 100 g) (hk : k < 100) : WpM 83 [.ref 0, .int (nI k)] h Q = Q (some (.int (rsI f g k))) h := by
  rw [eC_isRest]
  simp only [qC_isRest_0, w0, w1, w2i, w2r, w3, w4, w5_0, w5_1, w5_2, w5_3, w5_4, w5_5, w5_6, w5_7, w5_8, w6_0, w6_1, w7_0, w7_1, w7_2, w7_3, w7_4, w7_5, w8_0, w8_1, w9_0, w9_1, w9_2, w10_0, w10_1, w10_2, w10_3, w10_4, w10_5, w11, w12_0, w12_1, w12_2, w12_3, w12_4, w12_5, w13_0, w13_1, w13_2, w13_3, w13_4, w13_5, w14, w15i, w15r, w16, w17, w18, w19i, w19z, w19l, w20, w21, w22, w23, w24, w25, w26, w27, w28_1, w28_2, w28_3, w28_4, w28_5, w28_6, w29, w30i, w30z, w31, w32, w33, w34, w35, w36, w37_1, w37_2, w37_3, w37_4, w37_5, w37_6, isO_O, set1_0, set1_1i, set1_1r, set1_1n, set1_1l, set1_s, set2_0, set2_1i, set2_1r, set2_1n, set2_1l, set2_s, ldv_i, ldv_l, ldv_r, ldv_s, ldi_i, ldi_s, fK_0, fK_s, gfc_O, fS_0, fS_s, uH_s, uH_n, uH_u, tl_s, tl_n, b1_0, b1_1, ite_true, ite_false, if_true, if_false, List.length_nil, List.length_cons, Nat.zero_le, Nat.zero_add, Nat.reduceAdd, Nat.reduceLeDiff, Nat.reduceLT, Nat.reduceEqDiff, Nat.reduceMul, Nat.add_left_cancel_iff, not_false_eq_true, i100, d10 hk, m10 hk]
  unfold rsI
  by_cases hP : ∀ o, o < 10 → RsP f g k o
  · rw [arI_1 hP]
    exact C_isRest_1 h0 h29 h30 hk hP 10 0 (by omega)
  · rw [arI_0 hP]
    have dp : DecidablePred (fun o => ¬ RsP f g k o) := fun o => Classical.propDecidable _
    obtain ⟨j, j1, j2, j3⟩ := fb_first (p := fun o => ¬ RsP f g k o) (n := 10) (Classical.byContradiction fun z => hP (fun o ho => Classical.byContradiction fun y => z ⟨o, ho, y⟩))
    exact C_isRest_0 h0 h29 h30 hk j1 (fun o ho => Classical.byContradiction (j3 o ho)) j2 j 0 (by omega)
end ISREST
def vlK (k : Nat) : Int32 := nI (1100 * (k / 10) + 11 * (k % 10))
theorem vlK_ne {k : Nat} (hk : k < 100) : ¬ vlK k = -4 := by
  intro z
  have : (vlK k).toInt = (-4 : Int32).toInt := by rw [z]
  unfold vlK at this
  rw [nI_toInt (by omega), show (-4 : Int32).toInt = -4 from rfl] at this
  omega
/-- how many, the first: of those that rI says -/
def cnF (rI : Nat → Int32) : Nat → Int32
  | 0 => 0
  | i + 1 => if rI i = 0 then cnF rI i else cnF rI i + 1
def fsF (rI : Nat → Int32) : Nat → Int32
  | 0 => -4
  | i + 1 => if ¬ rI i = 0 ∧ fsF rI i = -4 then vlK i else fsF rI i
def bkN (rI : Nat → Int32) : Nat → Int32 → Int32
  | 0, n => n
  | i + 1, n => bkN rI i (if rI i = 0 then n else n + 1)
def bkF (rI : Nat → Int32) : Nat → Int32 → Int32
  | 0, f => f
  | i + 1, f => bkF rI i (if rI i = 0 then f else vlK i)
theorem bkN_eq (rI : Nat → Int32) : ∀ i n, bkN rI i n = n + cnF rI i
  | 0, n => by rw [bkN, cnF]; exact (Int32.add_zero n).symm
  | i + 1, n => by
    rw [bkN, cnF, bkN_eq rI i]
    split
    · rfl
    · grind
theorem bkF_eq (rI : Nat → Int32) : ∀ i f, i ≤ 100 → bkF rI i f = if fsF rI i = -4 then f else fsF rI i
  | 0, f, _ => by rw [bkF, fsF, if_pos rfl]
  | i + 1, f, hi => by
    rw [bkF, bkF_eq rI i _ (by omega)]
    have v := vlK_ne (k := i) (by omega)
    by_cases h4 : fsF rI i = -4
    · by_cases h0 : rI i = 0
      · have e : fsF rI (i + 1) = fsF rI i := by rw [fsF, if_neg (fun z => z.1 h0)]
        rw [e, if_pos h4, if_pos h0, if_pos h4]
      · have e : fsF rI (i + 1) = vlK i := by rw [fsF, if_pos ⟨h0, h4⟩]
        rw [e, if_pos h4, if_neg h0, if_neg v]
    · have e : fsF rI (i + 1) = fsF rI i := by rw [fsF, if_neg (fun z => h4 z.2)]
      rw [e, if_neg h4, if_neg h4]
theorem rs_01 (f g : Nat → Int64) (k : Nat) : rsI f g k = 0 ∨ rsI f g k = 1 := by
  unfold rsI
  by_cases z : ∀ o, o < 10 → RsP f g k o
  · exact Or.inr (arI_1 z)
  · exact Or.inl (arI_0 z)
theorem C_rests_loop {h : AH} {Q : Option Value → AH → Prop} {ik w : Int32} {f g : Nat → Int64} {x1 x2 : Option Value} (h0 : h 0 = aO 4 [.ref 1, .ref 8, .ref 15, .ref 22, .ref 26, .ref 28, .ref 29, .ref 30, .int ik]) (h29 : h 29 = aJ 100 f) (h30 : h 30 = aJ 100 g) : ∀ (d k : Nat), k + d = 100 → Wp none 59 qC_rests_89 [some (.ref 0), x1, x2, some (.int w), some (.int (cnF (rsI f g) k)), some (.int (fsF (rsI f g) k)), some (.int (nI k))] [] h Q = Q (some (.int (if w = 0 then cnF (rsI f g) 100 else fsF (rsI f g) 100))) h := by
  intro d
  induction d with
  | zero =>
    intro k hk
    have e : k = 100 := by omega
    subst e
    have hc : (100 : Int32) ≤ nI 100 := by decide
    simp only [qC_rests_89, qC_rests_141, jC_rests_141, qC_rests_150, jC_rests_150, qC_rests_152, jC_rests_152, w0, w1, w2i, w2r, w3, w4, w5_0, w5_1, w5_2, w5_3, w5_4, w5_5, w5_6, w5_7, w5_8, w6_0, w6_1, w7_0, w7_1, w7_2, w7_3, w7_4, w7_5, w8_0, w8_1, w9_0, w9_1, w9_2, w10_0, w10_1, w10_2, w10_3, w10_4, w10_5, w11, w12_0, w12_1, w12_2, w12_3, w12_4, w12_5, w13_0, w13_1, w13_2, w13_3, w13_4, w13_5, w14, w15i, w15r, w16, w17, w18, w19i, w19z, w19l, w20, w21, w22, w23, w24, w25, w26, w27, w28_1, w28_2, w28_3, w28_4, w28_5, w28_6, w29, w30i, w30z, w31, w32, w33, w34, w35, w36, w37_1, w37_2, w37_3, w37_4, w37_5, w37_6, isO_O, set1_0, set1_1i, set1_1r, set1_1n, set1_1l, set1_s, set2_0, set2_1i, set2_1r, set2_1n, set2_1l, set2_s, ldv_i, ldv_l, ldv_r, ldv_s, ldi_i, ldi_s, fK_0, fK_s, gfc_O, fS_0, fS_s, uH_s, uH_n, uH_u, tl_s, tl_n, b1_0, b1_1, ite_true, ite_false, if_true, if_false, List.length_nil, List.length_cons, Nat.zero_le, Nat.zero_add, Nat.reduceAdd, Nat.reduceLeDiff, Nat.reduceLT, Nat.reduceEqDiff, Nat.reduceMul, Nat.add_left_cancel_iff, not_false_eq_true, i10, Bool.false_eq_true, z01, ne_eq, not_true_eq_false, not_false_eq_true, or_self, true_or, or_true, false_or, or_false, hc]
    by_cases w0' : w = 0 <;> simp [w0']
  | succ d ih =>
    intro k hk
    have hc : ¬ (100 : Int32) ≤ nI k := nI_ge (b := 100) (by omega) (by decide)
    have k1 : k < 100 := by omega
    have ih := ih (k + 1) (by omega)
    rw [qC_rests_89]
    rcases rs_01 f g k with hz | hz
    · rw [cnF, fsF, if_pos hz, if_neg (fun z => z.1 hz)] at ih
      simp only [qC_rests_135, jC_rests_135, jC_rests_89, w0, w1, w2i, w2r, w3, w4, w5_0, w5_1, w5_2, w5_3, w5_4, w5_5, w5_6, w5_7, w5_8, w6_0, w6_1, w7_0, w7_1, w7_2, w7_3, w7_4, w7_5, w8_0, w8_1, w9_0, w9_1, w9_2, w10_0, w10_1, w10_2, w10_3, w10_4, w10_5, w11, w12_0, w12_1, w12_2, w12_3, w12_4, w12_5, w13_0, w13_1, w13_2, w13_3, w13_4, w13_5, w14, w15i, w15r, w16, w17, w18, w19i, w19z, w19l, w20, w21, w22, w23, w24, w25, w26, w27, w28_1, w28_2, w28_3, w28_4, w28_5, w28_6, w29, w30i, w30z, w31, w32, w33, w34, w35, w36, w37_1, w37_2, w37_3, w37_4, w37_5, w37_6, isO_O, set1_0, set1_1i, set1_1r, set1_1n, set1_1l, set1_s, set2_0, set2_1i, set2_1r, set2_1n, set2_1l, set2_s, ldv_i, ldv_l, ldv_r, ldv_s, ldi_i, ldi_s, fK_0, fK_s, gfc_O, fS_0, fS_s, uH_s, uH_n, uH_u, tl_s, tl_n, b1_0, b1_1, ite_true, ite_false, if_true, if_false, List.length_nil, List.length_cons, Nat.zero_le, Nat.zero_add, Nat.reduceAdd, Nat.reduceLeDiff, Nat.reduceLT, Nat.reduceEqDiff, Nat.reduceMul, Nat.add_left_cancel_iff, not_false_eq_true, i10, Bool.false_eq_true, z01, ne_eq, not_true_eq_false, not_false_eq_true, or_self, true_or, or_true, false_or, or_false, h0, hc, C_isRest h0 h29 h30 k1, hz, nI_1]
      exact ih
    · have hz0 : ¬ rsI f g k = 0 := by rw [hz]; decide
      rw [cnF, fsF, if_neg hz0] at ih
      by_cases h4 : fsF (rsI f g) k = -4
      · rw [if_pos ⟨hz0, h4⟩] at ih
        simp only [qC_rests_135, jC_rests_135, jC_rests_89, w0, w1, w2i, w2r, w3, w4, w5_0, w5_1, w5_2, w5_3, w5_4, w5_5, w5_6, w5_7, w5_8, w6_0, w6_1, w7_0, w7_1, w7_2, w7_3, w7_4, w7_5, w8_0, w8_1, w9_0, w9_1, w9_2, w10_0, w10_1, w10_2, w10_3, w10_4, w10_5, w11, w12_0, w12_1, w12_2, w12_3, w12_4, w12_5, w13_0, w13_1, w13_2, w13_3, w13_4, w13_5, w14, w15i, w15r, w16, w17, w18, w19i, w19z, w19l, w20, w21, w22, w23, w24, w25, w26, w27, w28_1, w28_2, w28_3, w28_4, w28_5, w28_6, w29, w30i, w30z, w31, w32, w33, w34, w35, w36, w37_1, w37_2, w37_3, w37_4, w37_5, w37_6, isO_O, set1_0, set1_1i, set1_1r, set1_1n, set1_1l, set1_s, set2_0, set2_1i, set2_1r, set2_1n, set2_1l, set2_s, ldv_i, ldv_l, ldv_r, ldv_s, ldi_i, ldi_s, fK_0, fK_s, gfc_O, fS_0, fS_s, uH_s, uH_n, uH_u, tl_s, tl_n, b1_0, b1_1, ite_true, ite_false, if_true, if_false, List.length_nil, List.length_cons, Nat.zero_le, Nat.zero_add, Nat.reduceAdd, Nat.reduceLeDiff, Nat.reduceLT, Nat.reduceEqDiff, Nat.reduceMul, Nat.add_left_cancel_iff, not_false_eq_true, i10, Bool.false_eq_true, z01, ne_eq, not_true_eq_false, not_false_eq_true, or_self, true_or, or_true, false_or, or_false, h0, hc, C_isRest h0 h29 h30 k1, hz, h4, i100, d10 k1, m10 k1, n11, n1100, nI_add, nI_1]
        exact ih
      · rw [if_neg (fun z => h4 z.2)] at ih
        simp only [qC_rests_135, jC_rests_135, jC_rests_89, w0, w1, w2i, w2r, w3, w4, w5_0, w5_1, w5_2, w5_3, w5_4, w5_5, w5_6, w5_7, w5_8, w6_0, w6_1, w7_0, w7_1, w7_2, w7_3, w7_4, w7_5, w8_0, w8_1, w9_0, w9_1, w9_2, w10_0, w10_1, w10_2, w10_3, w10_4, w10_5, w11, w12_0, w12_1, w12_2, w12_3, w12_4, w12_5, w13_0, w13_1, w13_2, w13_3, w13_4, w13_5, w14, w15i, w15r, w16, w17, w18, w19i, w19z, w19l, w20, w21, w22, w23, w24, w25, w26, w27, w28_1, w28_2, w28_3, w28_4, w28_5, w28_6, w29, w30i, w30z, w31, w32, w33, w34, w35, w36, w37_1, w37_2, w37_3, w37_4, w37_5, w37_6, isO_O, set1_0, set1_1i, set1_1r, set1_1n, set1_1l, set1_s, set2_0, set2_1i, set2_1r, set2_1n, set2_1l, set2_s, ldv_i, ldv_l, ldv_r, ldv_s, ldi_i, ldi_s, fK_0, fK_s, gfc_O, fS_0, fS_s, uH_s, uH_n, uH_u, tl_s, tl_n, b1_0, b1_1, ite_true, ite_false, if_true, if_false, List.length_nil, List.length_cons, Nat.zero_le, Nat.zero_add, Nat.reduceAdd, Nat.reduceLeDiff, Nat.reduceLT, Nat.reduceEqDiff, Nat.reduceMul, Nat.add_left_cancel_iff, not_false_eq_true, i10, Bool.false_eq_true, z01, ne_eq, not_true_eq_false, not_false_eq_true, or_self, true_or, or_true, false_or, or_false, h0, hc, C_isRest h0 h29 h30 k1, hz, h4, nI_1]
        exact ih

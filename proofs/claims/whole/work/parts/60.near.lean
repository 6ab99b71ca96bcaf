/-! the pair: near -/
/-- the askings, year by year -/
def sq (sh ki ca : Nat → Int32) (m : Nat) (as : Nat → Int32) : Nat → Nat → Int32
  | 0 => as
  | n + 1 => fun x => if ki x = 1 ∨ ki x = 3 then sq sh ki ca m as n x else aft sh (sq sh ki ca m as n) ki ca m x
noncomputable def nrA (P : Nat → Prop) : Nat → Nat → Int32
  | 0, _ => -4
  | d + 1, n => @ite Int32 (P n) (Classical.propDecidable _) (nI n) (nrA P d (n + 1))
noncomputable def arI (P : Nat → Prop) (i : Nat) : Int32 := @ite Int32 (∀ k, k < i → P k) (Classical.propDecidable _) 1 0
theorem arI_1 {P : Nat → Prop} {i : Nat} (h : ∀ k, k < i → P k) : arI P i = 1 := if_pos h
theorem arI_0 {P : Nat → Prop} {i : Nat} (h : ¬ ∀ k, k < i → P k) : arI P i = 0 := if_neg h
theorem nrB_cong {ab ab' : Nat → Int64} {r : Nat} {be : Int64} {as as' : Nat → Int32} {pe : Int32} {m : Nat} (h1 : ∀ x, x < m → ab x = ab' x) (h2 : ∀ x, x < m → as x = as' x) : nrB ab r be as pe m ↔ nrB ab' r be as' pe m := by
  unfold nrB anF
  constructor
  · intro h k hk; have := h k hk; rw [h1 k hk, h2 k hk] at this; exact this
  · intro h k hk; have := h k hk; rw [h1 k hk, h2 k hk]; exact this
theorem absq (z : Int64) : (if 0 < z then z else -z) = (if 0 ≤ z then z else -z) := by
  by_cases h : 0 < z
  · rw [if_pos h, if_pos (by rw [fa_lt64] at h; rw [fa_le64]; omega)]
  · rw [if_neg h]
    by_cases h2 : 0 ≤ z
    · have e : z = 0 := by
        rw [fa_lt64] at h; rw [fa_le64] at h2
        exact (fa_eq64 _ _).mpr (by omega)
      rw [e]; rfl
    · rw [if_neg h2]
theorem sq_step {sh ki ca as f ah : Nat → Int32} {m n x : Nat} (hx : x < m) (hf : ∀ k, k < m → f k = sq sh ki ca m as n k) (ha : ∀ k, k < m → ah k = f k) : (if ki x = 1 ∨ ki x = 3 then f x else aft sh ah ki ca m x) = sq sh ki ca m as (n + 1) x := by
  show _ = if ki x = 1 ∨ ki x = 3 then sq sh ki ca m as n x else aft sh (sq sh ki ca m as n) ki ca m x
  rw [hf x hx, aft_cong (f := ah) (f' := sq sh ki ca m as n) hx (fun k hk => (ha k hk).trans (hf k hk))]
theorem C_near_loop {m r : Nat} {ik pu ye pe op : Int32} {be : Int64} {AB : Nat → Int64} {ki ca sh as0 : Nat → Int32} (hm : m ≤ 8) (hr : r < 256) : ∀ (d n : Nat) (h : AH) (as ah : Nat → Int32), n + d = 61 → h 0 = aO 4 [.ref 1, .ref 8, .ref 15, .ref 22, .ref 26, .ref 28, .ref 29, .ref 30, .int ik] → h 15 = tO 15 (nI m) pu ye → h 16 = aI 8 ki → h 17 = aI 8 as → h 19 = aI 8 ca → h 20 = aI 64 sh → h 21 = aI 8 ah → h 22 = rO be (nI r) op (nI m) → h 23 = aJ 8 AB → (∀ x, x < m → as x = sq sh ki ca m as0 n x) → ∃ h' : AH, (∀ Q, Wp none 56 qC_near_33 [some (.ref 0), some (.int pe), some (.int (nI n))] [] h Q = Q (some (.int (nrA (fun n => nrB AB r be (sq sh ki ca m as0 n) pe m) d n))) h') ∧ NS [17, 21] h h' ∧ (Sh h → Sh h') := by
  intro d
  induction d with
  | zero =>
    intro n h as ah hn h0 h15 h16 h17 h19 h20 h21 h22 h23 hs
    have e : n = 61 := by omega
    subst e
    have hc : (60 : Int32) < nI 61 := by decide
    refine ⟨h, fun Q => ?_, NS.r, fun z => z⟩
    simp only [qC_near_33, qC_near_70, jC_near_70, w0, w1, w2i, w2r, w3, w4, w5_0, w5_1, w5_2, w5_3, w5_4, w5_5, w5_6, w5_7, w5_8, w6_0, w6_1, w7_0, w7_1, w7_2, w7_3, w7_4, w7_5, w8_0, w8_1, w9_0, w9_1, w9_2, w10_0, w10_1, w10_2, w10_3, w10_4, w10_5, w11, w12_0, w12_1, w12_2, w12_3, w12_4, w12_5, w13_0, w13_1, w13_2, w13_3, w13_4, w13_5, w14, w15i, w15r, w16, w17, w18, w19i, w19z, w19l, w20, w21, w22, w23, w24, w25, w26, w27, w28_1, w28_2, w28_3, w28_4, w28_5, w28_6, w29, w30i, w30z, w31, w32, w33, w34, w35, w36, w37_1, w37_2, w37_3, w37_4, w37_5, w37_6, isO_O, set1_0, set1_1i, set1_1r, set1_1n, set1_1l, set1_s, set2_0, set2_1i, set2_1r, set2_1n, set2_1l, set2_s, ldv_i, ldv_l, ldv_r, ldv_s, ldi_i, ldi_s, fK_0, fK_s, gfc_O, fS_0, fS_s, uH_s, uH_n, uH_u, tl_s, tl_n, b1_0, b1_1, ite_true, ite_false, if_true, if_false, List.length_nil, List.length_cons, Nat.zero_le, Nat.zero_add, Nat.reduceAdd, Nat.reduceLeDiff, Nat.reduceLT, Nat.reduceEqDiff, Nat.reduceMul, Nat.add_left_cancel_iff, not_false_eq_true, hc]
    rfl
  | succ d ih =>
    intro n h as ah hn h0 h15 h16 h17 h19 h20 h21 h22 h23 hs
    have hc : ¬ (60 : Int32) < nI n := by rw [fa_lt, nI_toInt (by omega)]; have : (60 : Int32).toInt = 60 := rfl; omega
    have hcg := nrB_cong (ab := AB) (ab' := AB) (r := r) (be := be) (pe := pe) (m := m) (fun _ _ => rfl) hs
    by_cases hp : nrB AB r be (sq sh ki ca m as0 n) pe m
    · refine ⟨h, fun Q => ?_, NS.r, fun z => z⟩
      rw [nrA, if_pos hp, qC_near_33]
      simp only [w0, w1, w2i, w2r, w3, w4, w5_0, w5_1, w5_2, w5_3, w5_4, w5_5, w5_6, w5_7, w5_8, w6_0, w6_1, w7_0, w7_1, w7_2, w7_3, w7_4, w7_5, w8_0, w8_1, w9_0, w9_1, w9_2, w10_0, w10_1, w10_2, w10_3, w10_4, w10_5, w11, w12_0, w12_1, w12_2, w12_3, w12_4, w12_5, w13_0, w13_1, w13_2, w13_3, w13_4, w13_5, w14, w15i, w15r, w16, w17, w18, w19i, w19z, w19l, w20, w21, w22, w23, w24, w25, w26, w27, w28_1, w28_2, w28_3, w28_4, w28_5, w28_6, w29, w30i, w30z, w31, w32, w33, w34, w35, w36, w37_1, w37_2, w37_3, w37_4, w37_5, w37_6, isO_O, set1_0, set1_1i, set1_1r, set1_1n, set1_1l, set1_s, set2_0, set2_1i, set2_1r, set2_1n, set2_1l, set2_s, ldv_i, ldv_l, ldv_r, ldv_s, ldi_i, ldi_s, fK_0, fK_s, gfc_O, fS_0, fS_s, uH_s, uH_n, uH_u, tl_s, tl_n, b1_0, b1_1, ite_true, ite_false, if_true, if_false, List.length_nil, List.length_cons, Nat.zero_le, Nat.zero_add, Nat.reduceAdd, Nat.reduceLeDiff, Nat.reduceLT, Nat.reduceEqDiff, Nat.reduceMul, Nat.add_left_cancel_iff, not_false_eq_true, i10, Bool.false_eq_true, z01, ne_eq, not_true_eq_false, not_false_eq_true, or_self, true_or, or_true, false_or, or_false, h0, h15, h22, hc, R_areNear_1 (t := 15) h22 h23 h15 h17 hr hm (hcg.mpr hp)]
    · have pf := fun (Q : Option Value → AH → Prop) => T_passYear (Q := Q) (t := 15) h15 h16 h17 h19 h20 h21 hm
      obtain ⟨h2, k2, d17, d21, n2, s2⟩ : ∃ g : AH, (∀ Q, WpM 38 [.ref 15] h Q = Q (some (.int (yC sh (va_cpy as ah 0 0 8) ki ca m as m))) g) ∧ g 17 = aI 8 (yF sh (va_cpy as ah 0 0 8) ki ca m as m) ∧ g 21 = aI 8 (va_cpy as ah 0 0 8) ∧ NS [17, 21] h g ∧ (Sh h → Sh g) := ⟨_, pf, uH_s _ _ _, by rw [uH_n _ _ (by decide)]; exact uH_s _ _ _, (NS.r.u (by decide)).u (by decide), fun hS => sh_17 (sh_21 hS)⟩
      obtain ⟨h3, k3, n3, s3⟩ := ih (n + 1) h2 _ _ (by omega) ((n2 0 (by decide)).trans h0) ((n2 15 (by decide)).trans h15) ((n2 16 (by decide)).trans h16) d17 ((n2 19 (by decide)).trans h19) ((n2 20 (by decide)).trans h20) d21 ((n2 22 (by decide)).trans h22) ((n2 23 (by decide)).trans h23) (fun x hx => by rw [yF_val m x hx]; exact sq_step hx hs (fun k hk => cpy8 (by omega)))
      refine ⟨h3, fun Q => ?_, n2.t n3, fun z => s3 (s2 z)⟩
      rw [nrA, if_neg hp, ← k3 Q]
      conv => lhs; rw [qC_near_33]
      simp only [qC_near_56, jC_near_56, jC_near_33, w0, w1, w2i, w2r, w3, w4, w5_0, w5_1, w5_2, w5_3, w5_4, w5_5, w5_6, w5_7, w5_8, w6_0, w6_1, w7_0, w7_1, w7_2, w7_3, w7_4, w7_5, w8_0, w8_1, w9_0, w9_1, w9_2, w10_0, w10_1, w10_2, w10_3, w10_4, w10_5, w11, w12_0, w12_1, w12_2, w12_3, w12_4, w12_5, w13_0, w13_1, w13_2, w13_3, w13_4, w13_5, w14, w15i, w15r, w16, w17, w18, w19i, w19z, w19l, w20, w21, w22, w23, w24, w25, w26, w27, w28_1, w28_2, w28_3, w28_4, w28_5, w28_6, w29, w30i, w30z, w31, w32, w33, w34, w35, w36, w37_1, w37_2, w37_3, w37_4, w37_5, w37_6, isO_O, set1_0, set1_1i, set1_1r, set1_1n, set1_1l, set1_s, set2_0, set2_1i, set2_1r, set2_1n, set2_1l, set2_s, ldv_i, ldv_l, ldv_r, ldv_s, ldi_i, ldi_s, fK_0, fK_s, gfc_O, fS_0, fS_s, uH_s, uH_n, uH_u, tl_s, tl_n, b1_0, b1_1, ite_true, ite_false, if_true, if_false, List.length_nil, List.length_cons, Nat.zero_le, Nat.zero_add, Nat.reduceAdd, Nat.reduceLeDiff, Nat.reduceLT, Nat.reduceEqDiff, Nat.reduceMul, Nat.add_left_cancel_iff, not_false_eq_true, i10, Bool.false_eq_true, z01, ne_eq, not_true_eq_false, not_false_eq_true, or_self, true_or, or_true, false_or, or_false, h0, h15, h22, hc, R_areNear_0 (t := 15) h22 h23 h15 h17 hr hm (fun z => hp (hcg.mp z)), k2, nI_1]
section NEAR
variable {h : AH} {Q : Option Value → AH → Prop} {pu ye bo ta ax wr pe : Int32} {be : Int64} {kn pr im : Int32} {ki as ca sh td tn : Nat → Int32} {m r : Nat} {ab : Nat → Int64}
theorem M_near_step {n i : Nat} {a : Int32} {x5 x6 : Option Value} (h39 : h 39 = mO (nI m) pu ye bo ta ax wr be (nI r) pr im) (h50 : h 50 = aJ 8 ab) (h53 : h 53 = aI 8 td) (hr : r < 256) (hm : m ≤ 8) (hi : i < m) (ha : a = 0 ∨ a = 1) : ∃ o : Int64, ∀ Q, Wp none 124 qM_near_60 [some (.ref 39), some (.int pe), some (.int (nI n)), some (.int a), some (.int (nI i)), x5, x6] [] h Q = Wp none 124 qM_near_60 [some (.ref 39), some (.int pe), some (.int (nI n)), some (.int (@ite Int32 (a = 1 ∧ anF ab r be td pe i) (Classical.propDecidable _) 1 0)), some (.int (nI (i + 1))), some (.long o), none] [] h Q := by
  have hc : ¬ nI m ≤ nI i := nI_ge (by omega) (by omega)
  have i8 : i < 8 := by omega
  refine ⟨if 0 < (td i).toInt64 * be - ab i then (td i).toInt64 * be - ab i else -((td i).toInt64 * be - ab i), fun Q => ?_⟩
  by_cases hp : a = 1 ∧ anF ab r be td pe i
  · rw [if_pos hp]
    obtain ⟨rfl, hp⟩ := hp
    unfold anF at hp
    rw [absq] at hp ⊢
    by_cases hz : 0 ≤ (td i).toInt64 * be - ab i
    · rw [if_pos hz] at hp ⊢
      conv => lhs; rw [qM_near_60]
      by_cases hb : r.testBit i = true
      · have h2 : ¬ pe.toInt64 * be < (td i).toInt64 * be - ab i := by have := hp hb; rw [fa_le64] at this; rw [fa_lt64]; omega
        simp only [qM_near_105, jM_near_105, qM_near_107, jM_near_107, qM_near_135, jM_near_135, qM_near_140, jM_near_140, jM_near_60, w0, w1, w2i, w2r, w3, w4, w5_0, w5_1, w5_2, w5_3, w5_4, w5_5, w5_6, w5_7, w5_8, w6_0, w6_1, w7_0, w7_1, w7_2, w7_3, w7_4, w7_5, w8_0, w8_1, w9_0, w9_1, w9_2, w10_0, w10_1, w10_2, w10_3, w10_4, w10_5, w11, w12_0, w12_1, w12_2, w12_3, w12_4, w12_5, w13_0, w13_1, w13_2, w13_3, w13_4, w13_5, w14, w15i, w15r, w16, w17, w18, w19i, w19z, w19l, w20, w21, w22, w23, w24, w25, w26, w27, w28_1, w28_2, w28_3, w28_4, w28_5, w28_6, w29, w30i, w30z, w31, w32, w33, w34, w35, w36, w37_1, w37_2, w37_3, w37_4, w37_5, w37_6, isO_O, set1_0, set1_1i, set1_1r, set1_1n, set1_1l, set1_s, set2_0, set2_1i, set2_1r, set2_1n, set2_1l, set2_s, ldv_i, ldv_l, ldv_r, ldv_s, ldi_i, ldi_s, fK_0, fK_s, gfc_O, fS_0, fS_s, uH_s, uH_n, uH_u, tl_s, tl_n, b1_0, b1_1, ite_true, ite_false, if_true, if_false, List.length_nil, List.length_cons, Nat.zero_le, Nat.zero_add, Nat.reduceAdd, Nat.reduceLeDiff, Nat.reduceLT, Nat.reduceEqDiff, Nat.reduceMul, Nat.add_left_cancel_iff, not_false_eq_true, i10, Bool.false_eq_true, z01, ne_eq, not_true_eq_false, not_false_eq_true, or_self, true_or, or_true, false_or, or_false, h39, h50, h53, hc, rIc_n i8 (show 8 < 2 ^ 31 by decide), rJc_n i8 (show 8 < 2 ^ 31 by decide), lg_cmp_ge, lg_cmp_gt, hz, M_isKnown h39 hr i8, hb, h2, nI_1]
      · simp only [qM_near_105, jM_near_105, qM_near_107, jM_near_107, qM_near_135, jM_near_135, qM_near_140, jM_near_140, jM_near_60, w0, w1, w2i, w2r, w3, w4, w5_0, w5_1, w5_2, w5_3, w5_4, w5_5, w5_6, w5_7, w5_8, w6_0, w6_1, w7_0, w7_1, w7_2, w7_3, w7_4, w7_5, w8_0, w8_1, w9_0, w9_1, w9_2, w10_0, w10_1, w10_2, w10_3, w10_4, w10_5, w11, w12_0, w12_1, w12_2, w12_3, w12_4, w12_5, w13_0, w13_1, w13_2, w13_3, w13_4, w13_5, w14, w15i, w15r, w16, w17, w18, w19i, w19z, w19l, w20, w21, w22, w23, w24, w25, w26, w27, w28_1, w28_2, w28_3, w28_4, w28_5, w28_6, w29, w30i, w30z, w31, w32, w33, w34, w35, w36, w37_1, w37_2, w37_3, w37_4, w37_5, w37_6, isO_O, set1_0, set1_1i, set1_1r, set1_1n, set1_1l, set1_s, set2_0, set2_1i, set2_1r, set2_1n, set2_1l, set2_s, ldv_i, ldv_l, ldv_r, ldv_s, ldi_i, ldi_s, fK_0, fK_s, gfc_O, fS_0, fS_s, uH_s, uH_n, uH_u, tl_s, tl_n, b1_0, b1_1, ite_true, ite_false, if_true, if_false, List.length_nil, List.length_cons, Nat.zero_le, Nat.zero_add, Nat.reduceAdd, Nat.reduceLeDiff, Nat.reduceLT, Nat.reduceEqDiff, Nat.reduceMul, Nat.add_left_cancel_iff, not_false_eq_true, i10, Bool.false_eq_true, z01, ne_eq, not_true_eq_false, not_false_eq_true, or_self, true_or, or_true, false_or, or_false, h39, h50, h53, hc, rIc_n i8 (show 8 < 2 ^ 31 by decide), rJc_n i8 (show 8 < 2 ^ 31 by decide), lg_cmp_ge, lg_cmp_gt, hz, M_isKnown h39 hr i8, hb, nI_1]
    · rw [if_neg hz] at hp ⊢
      conv => lhs; rw [qM_near_60]
      by_cases hb : r.testBit i = true
      · have h2 : ¬ pe.toInt64 * be < -((td i).toInt64 * be - ab i) := by have := hp hb; rw [fa_le64] at this; rw [fa_lt64]; omega
        simp only [qM_near_105, jM_near_105, qM_near_107, jM_near_107, qM_near_135, jM_near_135, qM_near_140, jM_near_140, jM_near_60, w0, w1, w2i, w2r, w3, w4, w5_0, w5_1, w5_2, w5_3, w5_4, w5_5, w5_6, w5_7, w5_8, w6_0, w6_1, w7_0, w7_1, w7_2, w7_3, w7_4, w7_5, w8_0, w8_1, w9_0, w9_1, w9_2, w10_0, w10_1, w10_2, w10_3, w10_4, w10_5, w11, w12_0, w12_1, w12_2, w12_3, w12_4, w12_5, w13_0, w13_1, w13_2, w13_3, w13_4, w13_5, w14, w15i, w15r, w16, w17, w18, w19i, w19z, w19l, w20, w21, w22, w23, w24, w25, w26, w27, w28_1, w28_2, w28_3, w28_4, w28_5, w28_6, w29, w30i, w30z, w31, w32, w33, w34, w35, w36, w37_1, w37_2, w37_3, w37_4, w37_5, w37_6, isO_O, set1_0, set1_1i, set1_1r, set1_1n, set1_1l, set1_s, set2_0, set2_1i, set2_1r, set2_1n, set2_1l, set2_s, ldv_i, ldv_l, ldv_r, ldv_s, ldi_i, ldi_s, fK_0, fK_s, gfc_O, fS_0, fS_s, uH_s, uH_n, uH_u, tl_s, tl_n, b1_0, b1_1, ite_true, ite_false, if_true, if_false, List.length_nil, List.length_cons, Nat.zero_le, Nat.zero_add, Nat.reduceAdd, Nat.reduceLeDiff, Nat.reduceLT, Nat.reduceEqDiff, Nat.reduceMul, Nat.add_left_cancel_iff, not_false_eq_true, i10, Bool.false_eq_true, z01, ne_eq, not_true_eq_false, not_false_eq_true, or_self, true_or, or_true, false_or, or_false, h39, h50, h53, hc, rIc_n i8 (show 8 < 2 ^ 31 by decide), rJc_n i8 (show 8 < 2 ^ 31 by decide), lg_cmp_ge, lg_cmp_gt, hz, M_isKnown h39 hr i8, hb, h2, nI_1]
      · simp only [qM_near_105, jM_near_105, qM_near_107, jM_near_107, qM_near_135, jM_near_135, qM_near_140, jM_near_140, jM_near_60, w0, w1, w2i, w2r, w3, w4, w5_0, w5_1, w5_2, w5_3, w5_4, w5_5, w5_6, w5_7, w5_8, w6_0, w6_1, w7_0, w7_1, w7_2, w7_3, w7_4, w7_5, w8_0, w8_1, w9_0, w9_1, w9_2, w10_0, w10_1, w10_2, w10_3, w10_4, w10_5, w11, w12_0, w12_1, w12_2, w12_3, w12_4, w12_5, w13_0, w13_1, w13_2, w13_3, w13_4, w13_5, w14, w15i, w15r, w16, w17, w18, w19i, w19z, w19l, w20, w21, w22, w23, w24, w25, w26, w27, w28_1, w28_2, w28_3, w28_4, w28_5, w28_6, w29, w30i, w30z, w31, w32, w33, w34, w35, w36, w37_1, w37_2, w37_3, w37_4, w37_5, w37_6, isO_O, set1_0, set1_1i, set1_1r, set1_1n, set1_1l, set1_s, set2_0, set2_1i, set2_1r, set2_1n, set2_1l, set2_s, ldv_i, ldv_l, ldv_r, ldv_s, ldi_i, ldi_s, fK_0, fK_s, gfc_O, fS_0, fS_s, uH_s, uH_n, uH_u, tl_s, tl_n, b1_0, b1_1, ite_true, ite_false, if_true, if_false, List.length_nil, List.length_cons, Nat.zero_le, Nat.zero_add, Nat.reduceAdd, Nat.reduceLeDiff, Nat.reduceLT, Nat.reduceEqDiff, Nat.reduceMul, Nat.add_left_cancel_iff, not_false_eq_true, i10, Bool.false_eq_true, z01, ne_eq, not_true_eq_false, not_false_eq_true, or_self, true_or, or_true, false_or, or_false, h39, h50, h53, hc, rIc_n i8 (show 8 < 2 ^ 31 by decide), rJc_n i8 (show 8 < 2 ^ 31 by decide), lg_cmp_ge, lg_cmp_gt, hz, M_isKnown h39 hr i8, hb, nI_1]
  · rw [if_neg hp, absq]
    by_cases hz : 0 ≤ (td i).toInt64 * be - ab i
    · rw [if_pos hz]
      conv => lhs; rw [qM_near_60]
      rcases ha with rfl | rfl
      · simp only [qM_near_105, jM_near_105, qM_near_107, jM_near_107, qM_near_139, jM_near_139, qM_near_140, jM_near_140, jM_near_60, w0, w1, w2i, w2r, w3, w4, w5_0, w5_1, w5_2, w5_3, w5_4, w5_5, w5_6, w5_7, w5_8, w6_0, w6_1, w7_0, w7_1, w7_2, w7_3, w7_4, w7_5, w8_0, w8_1, w9_0, w9_1, w9_2, w10_0, w10_1, w10_2, w10_3, w10_4, w10_5, w11, w12_0, w12_1, w12_2, w12_3, w12_4, w12_5, w13_0, w13_1, w13_2, w13_3, w13_4, w13_5, w14, w15i, w15r, w16, w17, w18, w19i, w19z, w19l, w20, w21, w22, w23, w24, w25, w26, w27, w28_1, w28_2, w28_3, w28_4, w28_5, w28_6, w29, w30i, w30z, w31, w32, w33, w34, w35, w36, w37_1, w37_2, w37_3, w37_4, w37_5, w37_6, isO_O, set1_0, set1_1i, set1_1r, set1_1n, set1_1l, set1_s, set2_0, set2_1i, set2_1r, set2_1n, set2_1l, set2_s, ldv_i, ldv_l, ldv_r, ldv_s, ldi_i, ldi_s, fK_0, fK_s, gfc_O, fS_0, fS_s, uH_s, uH_n, uH_u, tl_s, tl_n, b1_0, b1_1, ite_true, ite_false, if_true, if_false, List.length_nil, List.length_cons, Nat.zero_le, Nat.zero_add, Nat.reduceAdd, Nat.reduceLeDiff, Nat.reduceLT, Nat.reduceEqDiff, Nat.reduceMul, Nat.add_left_cancel_iff, not_false_eq_true, i10, Bool.false_eq_true, z01, ne_eq, not_true_eq_false, not_false_eq_true, or_self, true_or, or_true, false_or, or_false, h39, h50, h53, hc, rIc_n i8 (show 8 < 2 ^ 31 by decide), rJc_n i8 (show 8 < 2 ^ 31 by decide), lg_cmp_ge, lg_cmp_gt, hz, nI_1]
      · have hn : ¬ anF ab r be td pe i := fun z => hp ⟨rfl, z⟩
        unfold anF at hn
        rw [absq, if_pos hz] at hn
        have hb : r.testBit i = true := Classical.byContradiction fun z => hn (fun y => absurd y z)
        have h2 : pe.toInt64 * be < (td i).toInt64 * be - ab i := by
          have : ¬ (td i).toInt64 * be - ab i ≤ pe.toInt64 * be := fun z => hn (fun _ => z)
          rw [fa_le64] at this; rw [fa_lt64]; omega
        simp only [qM_near_105, jM_near_105, qM_near_107, jM_near_107, qM_near_139, jM_near_139, qM_near_140, jM_near_140, jM_near_60, w0, w1, w2i, w2r, w3, w4, w5_0, w5_1, w5_2, w5_3, w5_4, w5_5, w5_6, w5_7, w5_8, w6_0, w6_1, w7_0, w7_1, w7_2, w7_3, w7_4, w7_5, w8_0, w8_1, w9_0, w9_1, w9_2, w10_0, w10_1, w10_2, w10_3, w10_4, w10_5, w11, w12_0, w12_1, w12_2, w12_3, w12_4, w12_5, w13_0, w13_1, w13_2, w13_3, w13_4, w13_5, w14, w15i, w15r, w16, w17, w18, w19i, w19z, w19l, w20, w21, w22, w23, w24, w25, w26, w27, w28_1, w28_2, w28_3, w28_4, w28_5, w28_6, w29, w30i, w30z, w31, w32, w33, w34, w35, w36, w37_1, w37_2, w37_3, w37_4, w37_5, w37_6, isO_O, set1_0, set1_1i, set1_1r, set1_1n, set1_1l, set1_s, set2_0, set2_1i, set2_1r, set2_1n, set2_1l, set2_s, ldv_i, ldv_l, ldv_r, ldv_s, ldi_i, ldi_s, fK_0, fK_s, gfc_O, fS_0, fS_s, uH_s, uH_n, uH_u, tl_s, tl_n, b1_0, b1_1, ite_true, ite_false, if_true, if_false, List.length_nil, List.length_cons, Nat.zero_le, Nat.zero_add, Nat.reduceAdd, Nat.reduceLeDiff, Nat.reduceLT, Nat.reduceEqDiff, Nat.reduceMul, Nat.add_left_cancel_iff, not_false_eq_true, i10, Bool.false_eq_true, z01, ne_eq, not_true_eq_false, not_false_eq_true, or_self, true_or, or_true, false_or, or_false, h39, h50, h53, hc, rIc_n i8 (show 8 < 2 ^ 31 by decide), rJc_n i8 (show 8 < 2 ^ 31 by decide), lg_cmp_ge, lg_cmp_gt, hz, M_isKnown h39 hr i8, hb, h2, nI_1]
    · rw [if_neg hz]
      conv => lhs; rw [qM_near_60]
      rcases ha with rfl | rfl
      · simp only [qM_near_105, jM_near_105, qM_near_107, jM_near_107, qM_near_139, jM_near_139, qM_near_140, jM_near_140, jM_near_60, w0, w1, w2i, w2r, w3, w4, w5_0, w5_1, w5_2, w5_3, w5_4, w5_5, w5_6, w5_7, w5_8, w6_0, w6_1, w7_0, w7_1, w7_2, w7_3, w7_4, w7_5, w8_0, w8_1, w9_0, w9_1, w9_2, w10_0, w10_1, w10_2, w10_3, w10_4, w10_5, w11, w12_0, w12_1, w12_2, w12_3, w12_4, w12_5, w13_0, w13_1, w13_2, w13_3, w13_4, w13_5, w14, w15i, w15r, w16, w17, w18, w19i, w19z, w19l, w20, w21, w22, w23, w24, w25, w26, w27, w28_1, w28_2, w28_3, w28_4, w28_5, w28_6, w29, w30i, w30z, w31, w32, w33, w34, w35, w36, w37_1, w37_2, w37_3, w37_4, w37_5, w37_6, isO_O, set1_0, set1_1i, set1_1r, set1_1n, set1_1l, set1_s, set2_0, set2_1i, set2_1r, set2_1n, set2_1l, set2_s, ldv_i, ldv_l, ldv_r, ldv_s, ldi_i, ldi_s, fK_0, fK_s, gfc_O, fS_0, fS_s, uH_s, uH_n, uH_u, tl_s, tl_n, b1_0, b1_1, ite_true, ite_false, if_true, if_false, List.length_nil, List.length_cons, Nat.zero_le, Nat.zero_add, Nat.reduceAdd, Nat.reduceLeDiff, Nat.reduceLT, Nat.reduceEqDiff, Nat.reduceMul, Nat.add_left_cancel_iff, not_false_eq_true, i10, Bool.false_eq_true, z01, ne_eq, not_true_eq_false, not_false_eq_true, or_self, true_or, or_true, false_or, or_false, h39, h50, h53, hc, rIc_n i8 (show 8 < 2 ^ 31 by decide), rJc_n i8 (show 8 < 2 ^ 31 by decide), lg_cmp_ge, lg_cmp_gt, hz, nI_1]
      · have hn : ¬ anF ab r be td pe i := fun z => hp ⟨rfl, z⟩
        unfold anF at hn
        rw [absq, if_neg hz] at hn
        have hb : r.testBit i = true := Classical.byContradiction fun z => hn (fun y => absurd y z)
        have h2 : pe.toInt64 * be < -((td i).toInt64 * be - ab i) := by
          have : ¬ -((td i).toInt64 * be - ab i) ≤ pe.toInt64 * be := fun z => hn (fun _ => z)
          rw [fa_le64] at this; rw [fa_lt64]; omega
        simp only [qM_near_105, jM_near_105, qM_near_107, jM_near_107, qM_near_139, jM_near_139, qM_near_140, jM_near_140, jM_near_60, w0, w1, w2i, w2r, w3, w4, w5_0, w5_1, w5_2, w5_3, w5_4, w5_5, w5_6, w5_7, w5_8, w6_0, w6_1, w7_0, w7_1, w7_2, w7_3, w7_4, w7_5, w8_0, w8_1, w9_0, w9_1, w9_2, w10_0, w10_1, w10_2, w10_3, w10_4, w10_5, w11, w12_0, w12_1, w12_2, w12_3, w12_4, w12_5, w13_0, w13_1, w13_2, w13_3, w13_4, w13_5, w14, w15i, w15r, w16, w17, w18, w19i, w19z, w19l, w20, w21, w22, w23, w24, w25, w26, w27, w28_1, w28_2, w28_3, w28_4, w28_5, w28_6, w29, w30i, w30z, w31, w32, w33, w34, w35, w36, w37_1, w37_2, w37_3, w37_4, w37_5, w37_6, isO_O, set1_0, set1_1i, set1_1r, set1_1n, set1_1l, set1_s, set2_0, set2_1i, set2_1r, set2_1n, set2_1l, set2_s, ldv_i, ldv_l, ldv_r, ldv_s, ldi_i, ldi_s, fK_0, fK_s, gfc_O, fS_0, fS_s, uH_s, uH_n, uH_u, tl_s, tl_n, b1_0, b1_1, ite_true, ite_false, if_true, if_false, List.length_nil, List.length_cons, Nat.zero_le, Nat.zero_add, Nat.reduceAdd, Nat.reduceLeDiff, Nat.reduceLT, Nat.reduceEqDiff, Nat.reduceMul, Nat.add_left_cancel_iff, not_false_eq_true, i10, Bool.false_eq_true, z01, ne_eq, not_true_eq_false, not_false_eq_true, or_self, true_or, or_true, false_or, or_false, h39, h50, h53, hc, rIc_n i8 (show 8 < 2 ^ 31 by decide), rJc_n i8 (show 8 < 2 ^ 31 by decide), lg_cmp_ge, lg_cmp_gt, hz, M_isKnown h39 hr i8, hb, h2, nI_1]
theorem M_near_in {n : Nat} (h39 : h 39 = mO (nI m) pu ye bo ta ax wr be (nI r) pr im) (h50 : h 50 = aJ 8 ab) (h53 : h 53 = aI 8 td) (hr : r < 256) (hm : m ≤ 8) : ∀ (e i : Nat) (x5 x6 : Option Value), i + e = m → ∃ y5 y6 : Option Value, ∀ Q, Wp none 124 qM_near_60 [some (.ref 39), some (.int pe), some (.int (nI n)), some (.int (arI (anF ab r be td pe) i)), some (.int (nI i)), x5, x6] [] h Q = Wp none 124 qM_near_147 [some (.ref 39), some (.int pe), some (.int (nI n)), some (.int (arI (anF ab r be td pe) m)), some (.int (nI m)), y5, y6] [] h Q := by
  intro e
  induction e with
  | zero =>
    intro i x5 x6 hi
    have e : i = m := by omega
    subst e
    have hc : nI i ≤ nI i := nI_le (Nat.le_refl i) (by omega)
    refine ⟨x5, x6, fun Q => ?_⟩
    rw [qM_near_60]
    simp only [jM_near_147, w0, w1, w2i, w2r, w3, w4, w5_0, w5_1, w5_2, w5_3, w5_4, w5_5, w5_6, w5_7, w5_8, w6_0, w6_1, w7_0, w7_1, w7_2, w7_3, w7_4, w7_5, w8_0, w8_1, w9_0, w9_1, w9_2, w10_0, w10_1, w10_2, w10_3, w10_4, w10_5, w11, w12_0, w12_1, w12_2, w12_3, w12_4, w12_5, w13_0, w13_1, w13_2, w13_3, w13_4, w13_5, w14, w15i, w15r, w16, w17, w18, w19i, w19z, w19l, w20, w21, w22, w23, w24, w25, w26, w27, w28_1, w28_2, w28_3, w28_4, w28_5, w28_6, w29, w30i, w30z, w31, w32, w33, w34, w35, w36, w37_1, w37_2, w37_3, w37_4, w37_5, w37_6, isO_O, set1_0, set1_1i, set1_1r, set1_1n, set1_1l, set1_s, set2_0, set2_1i, set2_1r, set2_1n, set2_1l, set2_s, ldv_i, ldv_l, ldv_r, ldv_s, ldi_i, ldi_s, fK_0, fK_s, gfc_O, fS_0, fS_s, uH_s, uH_n, uH_u, tl_s, tl_n, b1_0, b1_1, ite_true, ite_false, if_true, if_false, List.length_nil, List.length_cons, Nat.zero_le, Nat.zero_add, Nat.reduceAdd, Nat.reduceLeDiff, Nat.reduceLT, Nat.reduceEqDiff, Nat.reduceMul, Nat.add_left_cancel_iff, not_false_eq_true, h39, hc]
  | succ e ih =>
    intro i x5 x6 hi
    have ha : arI (anF ab r be td pe) i = 0 ∨ arI (anF ab r be td pe) i = 1 := by
      by_cases z : ∀ k, k < i → anF ab r be td pe k
      · exact Or.inr (arI_1 z)
      · exact Or.inl (arI_0 z)
    obtain ⟨o, st⟩ := M_near_step (n := n) (x5 := x5) (x6 := x6) (pe := pe) h39 h50 h53 hr hm (show i < m by omega) ha
    obtain ⟨y5, y6, ih⟩ := ih (i + 1) (some (.long o)) none (by omega)
    refine ⟨y5, y6, fun Q => ?_⟩
    rw [st Q, ← ih Q]
    have e : (@ite Int32 (arI (anF ab r be td pe) i = 1 ∧ anF ab r be td pe i) (Classical.propDecidable _) 1 0) = arI (anF ab r be td pe) (i + 1) := by
      by_cases z : ∀ k, k < i + 1 → anF ab r be td pe k
      · rw [arI_1 z, if_pos ⟨arI_1 (fun k hk => z k (by omega)), z i (by omega)⟩]
      · rw [arI_0 z, if_neg]
        rintro ⟨z1, z2⟩
        by_cases y : ∀ k, k < i → anF ab r be td pe k
        · exact z (fun k hk => by
            by_cases ek : k = i
            · rw [ek]; exact z2
            · exact y k (by omega))
        · rw [arI_0 y] at z1; exact absurd z1 (by decide)
    rw [e]
theorem M_near_cp1 {x3 x4 x5 x6 : Option Value} (hm : m ≤ 8) : ∀ (e i : Nat) (h : AH), i + e = m → h 39 = mO (nI m) pu ye bo ta ax wr be kn pr im → h 41 = aI 8 as → h 53 = aI 8 (fa_fill as td i) → Wp none 124 qM_near_21 [some (.ref 39), some (.int pe), some (.int (nI i)), x3, x4, x5, x6] [] h Q = Wp none 124 qM_near_47 [some (.ref 39), some (.int pe), some (.int (nI m)), x3, x4, x5, x6] [] (uH h 53 (aI 8 (fa_fill as td m))) Q := by
  intro e
  induction e with
  | zero =>
    intro i h hi h39 h41 h53
    have e : i = m := by omega
    subst e
    have hc : nI i ≤ nI i := nI_le (Nat.le_refl i) (by omega)
    rw [qM_near_21]
    simp only [jM_near_47, w0, w1, w2i, w2r, w3, w4, w5_0, w5_1, w5_2, w5_3, w5_4, w5_5, w5_6, w5_7, w5_8, w6_0, w6_1, w7_0, w7_1, w7_2, w7_3, w7_4, w7_5, w8_0, w8_1, w9_0, w9_1, w9_2, w10_0, w10_1, w10_2, w10_3, w10_4, w10_5, w11, w12_0, w12_1, w12_2, w12_3, w12_4, w12_5, w13_0, w13_1, w13_2, w13_3, w13_4, w13_5, w14, w15i, w15r, w16, w17, w18, w19i, w19z, w19l, w20, w21, w22, w23, w24, w25, w26, w27, w28_1, w28_2, w28_3, w28_4, w28_5, w28_6, w29, w30i, w30z, w31, w32, w33, w34, w35, w36, w37_1, w37_2, w37_3, w37_4, w37_5, w37_6, isO_O, set1_0, set1_1i, set1_1r, set1_1n, set1_1l, set1_s, set2_0, set2_1i, set2_1r, set2_1n, set2_1l, set2_s, ldv_i, ldv_l, ldv_r, ldv_s, ldi_i, ldi_s, fK_0, fK_s, gfc_O, fS_0, fS_s, uH_s, uH_n, uH_u, tl_s, tl_n, b1_0, b1_1, ite_true, ite_false, if_true, if_false, List.length_nil, List.length_cons, Nat.zero_le, Nat.zero_add, Nat.reduceAdd, Nat.reduceLeDiff, Nat.reduceLT, Nat.reduceEqDiff, Nat.reduceMul, Nat.add_left_cancel_iff, not_false_eq_true, h39, hc]
    rw [uH_id h h53]
  | succ e ih =>
    intro i h hi h39 h41 h53
    have hc : ¬ nI m ≤ nI i := nI_ge (by omega) (by omega)
    have i8 : i < 8 := by omega
    rw [qM_near_21]
    simp only [jM_near_21, w0, w1, w2i, w2r, w3, w4, w5_0, w5_1, w5_2, w5_3, w5_4, w5_5, w5_6, w5_7, w5_8, w6_0, w6_1, w7_0, w7_1, w7_2, w7_3, w7_4, w7_5, w8_0, w8_1, w9_0, w9_1, w9_2, w10_0, w10_1, w10_2, w10_3, w10_4, w10_5, w11, w12_0, w12_1, w12_2, w12_3, w12_4, w12_5, w13_0, w13_1, w13_2, w13_3, w13_4, w13_5, w14, w15i, w15r, w16, w17, w18, w19i, w19z, w19l, w20, w21, w22, w23, w24, w25, w26, w27, w28_1, w28_2, w28_3, w28_4, w28_5, w28_6, w29, w30i, w30z, w31, w32, w33, w34, w35, w36, w37_1, w37_2, w37_3, w37_4, w37_5, w37_6, isO_O, set1_0, set1_1i, set1_1r, set1_1n, set1_1l, set1_s, set2_0, set2_1i, set2_1r, set2_1n, set2_1l, set2_s, ldv_i, ldv_l, ldv_r, ldv_s, ldi_i, ldi_s, fK_0, fK_s, gfc_O, fS_0, fS_s, uH_s, uH_n, uH_u, tl_s, tl_n, b1_0, b1_1, ite_true, ite_false, if_true, if_false, List.length_nil, List.length_cons, Nat.zero_le, Nat.zero_add, Nat.reduceAdd, Nat.reduceLeDiff, Nat.reduceLT, Nat.reduceEqDiff, Nat.reduceMul, Nat.add_left_cancel_iff, not_false_eq_true, h39, h41, h53, hc, rIc_n i8 (show 8 < 2 ^ 31 by decide), wIc_n i8 (show 8 < 2 ^ 31 by decide), fa_fill_succ, nI_1]
    rw [ih (i + 1) _ (by omega) (by rw [uH_n _ _ (by omega)]; exact h39) (by rw [uH_n _ _ (by omega)]; exact h41) (by rw [uH_s]), uH_u]
theorem M_near_cp2 {n : Nat} {a : Int32} {x5 x6 : Option Value} (hm : m ≤ 8) : ∀ (e i : Nat) (h : AH), i + e = m → h 39 = mO (nI m) pu ye bo ta ax wr be kn pr im → h 52 = aI 8 tn → h 53 = aI 8 (fa_fill tn td i) → Wp none 124 qM_near_164 [some (.ref 39), some (.int pe), some (.int (nI n)), some (.int a), some (.int (nI i)), x5, x6] [] h Q = Wp none 124 qM_near_193 [some (.ref 39), some (.int pe), some (.int (nI n)), some (.int a), some (.int (nI m)), x5, x6] [] (uH h 53 (aI 8 (fa_fill tn td m))) Q := by
  intro e
  induction e with
  | zero =>
    intro i h hi h39 h52 h53
    have e : i = m := by omega
    subst e
    have hc : nI i ≤ nI i := nI_le (Nat.le_refl i) (by omega)
    rw [qM_near_164]
    simp only [jM_near_193, w0, w1, w2i, w2r, w3, w4, w5_0, w5_1, w5_2, w5_3, w5_4, w5_5, w5_6, w5_7, w5_8, w6_0, w6_1, w7_0, w7_1, w7_2, w7_3, w7_4, w7_5, w8_0, w8_1, w9_0, w9_1, w9_2, w10_0, w10_1, w10_2, w10_3, w10_4, w10_5, w11, w12_0, w12_1, w12_2, w12_3, w12_4, w12_5, w13_0, w13_1, w13_2, w13_3, w13_4, w13_5, w14, w15i, w15r, w16, w17, w18, w19i, w19z, w19l, w20, w21, w22, w23, w24, w25, w26, w27, w28_1, w28_2, w28_3, w28_4, w28_5, w28_6, w29, w30i, w30z, w31, w32, w33, w34, w35, w36, w37_1, w37_2, w37_3, w37_4, w37_5, w37_6, isO_O, set1_0, set1_1i, set1_1r, set1_1n, set1_1l, set1_s, set2_0, set2_1i, set2_1r, set2_1n, set2_1l, set2_s, ldv_i, ldv_l, ldv_r, ldv_s, ldi_i, ldi_s, fK_0, fK_s, gfc_O, fS_0, fS_s, uH_s, uH_n, uH_u, tl_s, tl_n, b1_0, b1_1, ite_true, ite_false, if_true, if_false, List.length_nil, List.length_cons, Nat.zero_le, Nat.zero_add, Nat.reduceAdd, Nat.reduceLeDiff, Nat.reduceLT, Nat.reduceEqDiff, Nat.reduceMul, Nat.add_left_cancel_iff, not_false_eq_true, h39, hc]
    rw [uH_id h h53]
  | succ e ih =>
    intro i h hi h39 h52 h53
    have hc : ¬ nI m ≤ nI i := nI_ge (by omega) (by omega)
    have i8 : i < 8 := by omega
    rw [qM_near_164]
    simp only [jM_near_164, w0, w1, w2i, w2r, w3, w4, w5_0, w5_1, w5_2, w5_3, w5_4, w5_5, w5_6, w5_7, w5_8, w6_0, w6_1, w7_0, w7_1, w7_2, w7_3, w7_4, w7_5, w8_0, w8_1, w9_0, w9_1, w9_2, w10_0, w10_1, w10_2, w10_3, w10_4, w10_5, w11, w12_0, w12_1, w12_2, w12_3, w12_4, w12_5, w13_0, w13_1, w13_2, w13_3, w13_4, w13_5, w14, w15i, w15r, w16, w17, w18, w19i, w19z, w19l, w20, w21, w22, w23, w24, w25, w26, w27, w28_1, w28_2, w28_3, w28_4, w28_5, w28_6, w29, w30i, w30z, w31, w32, w33, w34, w35, w36, w37_1, w37_2, w37_3, w37_4, w37_5, w37_6, isO_O, set1_0, set1_1i, set1_1r, set1_1n, set1_1l, set1_s, set2_0, set2_1i, set2_1r, set2_1n, set2_1l, set2_s, ldv_i, ldv_l, ldv_r, ldv_s, ldi_i, ldi_s, fK_0, fK_s, gfc_O, fS_0, fS_s, uH_s, uH_n, uH_u, tl_s, tl_n, b1_0, b1_1, ite_true, ite_false, if_true, if_false, List.length_nil, List.length_cons, Nat.zero_le, Nat.zero_add, Nat.reduceAdd, Nat.reduceLeDiff, Nat.reduceLT, Nat.reduceEqDiff, Nat.reduceMul, Nat.add_left_cancel_iff, not_false_eq_true, h39, h52, h53, hc, rIc_n i8 (show 8 < 2 ^ 31 by decide), wIc_n i8 (show 8 < 2 ^ 31 by decide), fa_fill_succ, nI_1]
    rw [ih (i + 1) _ (by omega) (by rw [uH_n _ _ (by omega)]; exact h39) (by rw [uH_n _ _ (by omega)]; exact h52) (by rw [uH_s]), uH_u]
end NEAR
theorem M_near_loop {m r : Nat} {pu ye ta ax wr pe : Int32} {be : Int64} {pr im : Int32} {AB ab : Nat → Int64} {ki ca sh as0 kiM caM shM : Nat → Int32} (hm : m ≤ 8) (hr : r < 256) (hv : ShV sh m) (hk : ∀ a, a < m → kiM a = ki a) (hca : ∀ a, a < m → caM a = ca a) (hsh : ∀ a c, a < m → c < m → shM (8 * a + c) = sh (8 * a + c)) (hab : ∀ x, x < m → ab x = AB x) : ∀ (d n : Nat) (h : AH) (td tn : Nat → Int32) (x3 x4 x5 x6 : Option Value), n + d = 61 → h 39 = mO (nI m) pu ye (nI 0) ta ax wr be (nI r) pr im → h 40 = aI 8 kiM → h 43 = aI 8 caM → h 44 = aI 64 shM → h 50 = aJ 8 ab → h 52 = aI 8 tn → h 53 = aI 8 td → (∀ x, x < m → td x = sq sh ki ca m as0 n x) → ∃ h' : AH, (∀ Q, Wp none 124 qM_near_49 [some (.ref 39), some (.int pe), some (.int (nI n)), x3, x4, x5, x6] [] h Q = Q (some (.int (nrA (fun n => nrB AB r be (sq sh ki ca m as0 n) pe m) d n))) h') ∧ NS [52, 53] h h' ∧ (Sh h → Sh h') := by
  intro d
  induction d with
  | zero =>
    intro n h td tn x3 x4 x5 x6 hn h39 h40 h43 h44 h50 h52 h53 hs
    have e : n = 61 := by omega
    subst e
    have hc : (61 : Int32) ≤ nI 61 := by decide
    refine ⟨h, fun Q => ?_, NS.r, fun z => z⟩
    simp only [qM_near_49, qM_near_199, jM_near_199, w0, w1, w2i, w2r, w3, w4, w5_0, w5_1, w5_2, w5_3, w5_4, w5_5, w5_6, w5_7, w5_8, w6_0, w6_1, w7_0, w7_1, w7_2, w7_3, w7_4, w7_5, w8_0, w8_1, w9_0, w9_1, w9_2, w10_0, w10_1, w10_2, w10_3, w10_4, w10_5, w11, w12_0, w12_1, w12_2, w12_3, w12_4, w12_5, w13_0, w13_1, w13_2, w13_3, w13_4, w13_5, w14, w15i, w15r, w16, w17, w18, w19i, w19z, w19l, w20, w21, w22, w23, w24, w25, w26, w27, w28_1, w28_2, w28_3, w28_4, w28_5, w28_6, w29, w30i, w30z, w31, w32, w33, w34, w35, w36, w37_1, w37_2, w37_3, w37_4, w37_5, w37_6, isO_O, set1_0, set1_1i, set1_1r, set1_1n, set1_1l, set1_s, set2_0, set2_1i, set2_1r, set2_1n, set2_1l, set2_s, ldv_i, ldv_l, ldv_r, ldv_s, ldi_i, ldi_s, fK_0, fK_s, gfc_O, fS_0, fS_s, uH_s, uH_n, uH_u, tl_s, tl_n, b1_0, b1_1, ite_true, ite_false, if_true, if_false, List.length_nil, List.length_cons, Nat.zero_le, Nat.zero_add, Nat.reduceAdd, Nat.reduceLeDiff, Nat.reduceLT, Nat.reduceEqDiff, Nat.reduceMul, Nat.add_left_cancel_iff, not_false_eq_true, hc]
    rfl
  | succ d ih =>
    intro n h td tn x3 x4 x5 x6 hn h39 h40 h43 h44 h50 h52 h53 hs
    have hc : ¬ (61 : Int32) ≤ nI n := nI_ge (b := 61) (by omega) (by decide)
    have hcg := nrB_cong (ab := ab) (ab' := AB) (r := r) (be := be) (pe := pe) (m := m) hab hs
    obtain ⟨y5, y6, lp⟩ := M_near_in (pe := pe) (n := n) h39 h50 h53 hr hm m 0 x5 x6 (by omega)
    rw [show nI 0 = 0 from rfl, arI_1 (fun k hk => absurd hk (by omega))] at lp
    by_cases hp : nrB AB r be (sq sh ki ca m as0 n) pe m
    · refine ⟨h, fun Q => ?_, NS.r, fun z => z⟩
      have h1 : arI (anF ab r be td pe) m = 1 := arI_1 (hcg.mpr hp)
      rw [h1] at lp
      rw [nrA, if_pos hp, qM_near_49]
      simp only [w0, w1, w2i, w2r, w3, w4, w5_0, w5_1, w5_2, w5_3, w5_4, w5_5, w5_6, w5_7, w5_8, w6_0, w6_1, w7_0, w7_1, w7_2, w7_3, w7_4, w7_5, w8_0, w8_1, w9_0, w9_1, w9_2, w10_0, w10_1, w10_2, w10_3, w10_4, w10_5, w11, w12_0, w12_1, w12_2, w12_3, w12_4, w12_5, w13_0, w13_1, w13_2, w13_3, w13_4, w13_5, w14, w15i, w15r, w16, w17, w18, w19i, w19z, w19l, w20, w21, w22, w23, w24, w25, w26, w27, w28_1, w28_2, w28_3, w28_4, w28_5, w28_6, w29, w30i, w30z, w31, w32, w33, w34, w35, w36, w37_1, w37_2, w37_3, w37_4, w37_5, w37_6, isO_O, set1_0, set1_1i, set1_1r, set1_1n, set1_1l, set1_s, set2_0, set2_1i, set2_1r, set2_1n, set2_1l, set2_s, ldv_i, ldv_l, ldv_r, ldv_s, ldi_i, ldi_s, fK_0, fK_s, gfc_O, fS_0, fS_s, uH_s, uH_n, uH_u, tl_s, tl_n, b1_0, b1_1, ite_true, ite_false, if_true, if_false, List.length_nil, List.length_cons, Nat.zero_le, Nat.zero_add, Nat.reduceAdd, Nat.reduceLeDiff, Nat.reduceLT, Nat.reduceEqDiff, Nat.reduceMul, Nat.add_left_cancel_iff, not_false_eq_true, i10, Bool.false_eq_true, z01, ne_eq, not_true_eq_false, not_false_eq_true, or_self, true_or, or_true, false_or, or_false, hc, lp]
      rw [qM_near_147]
      simp only [w0, w1, w2i, w2r, w3, w4, w5_0, w5_1, w5_2, w5_3, w5_4, w5_5, w5_6, w5_7, w5_8, w6_0, w6_1, w7_0, w7_1, w7_2, w7_3, w7_4, w7_5, w8_0, w8_1, w9_0, w9_1, w9_2, w10_0, w10_1, w10_2, w10_3, w10_4, w10_5, w11, w12_0, w12_1, w12_2, w12_3, w12_4, w12_5, w13_0, w13_1, w13_2, w13_3, w13_4, w13_5, w14, w15i, w15r, w16, w17, w18, w19i, w19z, w19l, w20, w21, w22, w23, w24, w25, w26, w27, w28_1, w28_2, w28_3, w28_4, w28_5, w28_6, w29, w30i, w30z, w31, w32, w33, w34, w35, w36, w37_1, w37_2, w37_3, w37_4, w37_5, w37_6, isO_O, set1_0, set1_1i, set1_1r, set1_1n, set1_1l, set1_s, set2_0, set2_1i, set2_1r, set2_1n, set2_1l, set2_s, ldv_i, ldv_l, ldv_r, ldv_s, ldi_i, ldi_s, fK_0, fK_s, gfc_O, fS_0, fS_s, uH_s, uH_n, uH_u, tl_s, tl_n, b1_0, b1_1, ite_true, ite_false, if_true, if_false, List.length_nil, List.length_cons, Nat.zero_le, Nat.zero_add, Nat.reduceAdd, Nat.reduceLeDiff, Nat.reduceLT, Nat.reduceEqDiff, Nat.reduceMul, Nat.add_left_cancel_iff, not_false_eq_true, i10, Bool.false_eq_true, z01, ne_eq, not_true_eq_false, not_false_eq_true, or_self, true_or, or_true, false_or, or_false]
    · have h1 : arI (anF ab r be td pe) m = 0 := arI_0 (fun z => hp (hcg.mp z))
      rw [h1] at lp
      obtain ⟨h2, k2, d52, n2, s2⟩ := goM (q := 53) (by decide) h39 h40 h43 h44 h53 h52 (show 0 < 256 by decide) hm
      have d53 := (n2 53 (by decide)).trans h53
      have d39 := (n2 39 (by decide)).trans h39
      have cp := fun (Q : Option Value → AH → Prop) => M_near_cp2 (Q := Q) (pe := pe) (n := n) (a := 0) (x5 := y5) (x6 := y6) hm m 0 h2 (by omega) d39 d52 (by rw [fa_fill_0]; exact d53)
      rw [show nI 0 = 0 from rfl] at cp
      obtain ⟨h3, e3, d53', n3, s3⟩ : ∃ g : AH, g = uH h2 53 (aI 8 (fa_fill (goA shM td kiM caM 0 m tn m) td m)) ∧ g 53 = aI 8 (fa_fill (goA shM td kiM caM 0 m tn m) td m) ∧ NS [53] h2 g ∧ (Sh h2 → Sh g) := ⟨_, rfl, uH_s _ _ _, NS.r.u (by decide), fun hS => sh_53 hS⟩
      rw [← e3] at cp
      have n23 : NS [52, 53] h h3 := (n2.m (by decide)).t (n3.m (by decide))
      obtain ⟨h4, k4, n4, s4⟩ := ih (n + 1) h3 _ _ (some (.int 0)) (some (.int (nI m))) y5 y6 (by omega) ((n23 39 (by decide)).trans h39) ((n23 40 (by decide)).trans h40) ((n23 43 (by decide)).trans h43) ((n23 44 (by decide)).trans h44) ((n23 50 (by decide)).trans h50) ((n3 52 (by decide)).trans d52) d53' (fun x hx => by
        rw [fa_fill_in hx, goA_val m x hx, go_eq (ah := td) hm hv hk hca hsh (fun _ _ => rfl) hx]
        exact sq_step hx hs (fun _ _ => rfl))
      refine ⟨h4, fun Q => ?_, n23.t n4, fun z => s4 (s3 (s2 z))⟩
      rw [nrA, if_neg hp, ← k4 Q]
      conv => lhs; rw [qM_near_49]
      simp only [w0, w1, w2i, w2r, w3, w4, w5_0, w5_1, w5_2, w5_3, w5_4, w5_5, w5_6, w5_7, w5_8, w6_0, w6_1, w7_0, w7_1, w7_2, w7_3, w7_4, w7_5, w8_0, w8_1, w9_0, w9_1, w9_2, w10_0, w10_1, w10_2, w10_3, w10_4, w10_5, w11, w12_0, w12_1, w12_2, w12_3, w12_4, w12_5, w13_0, w13_1, w13_2, w13_3, w13_4, w13_5, w14, w15i, w15r, w16, w17, w18, w19i, w19z, w19l, w20, w21, w22, w23, w24, w25, w26, w27, w28_1, w28_2, w28_3, w28_4, w28_5, w28_6, w29, w30i, w30z, w31, w32, w33, w34, w35, w36, w37_1, w37_2, w37_3, w37_4, w37_5, w37_6, isO_O, set1_0, set1_1i, set1_1r, set1_1n, set1_1l, set1_s, set2_0, set2_1i, set2_1r, set2_1n, set2_1l, set2_s, ldv_i, ldv_l, ldv_r, ldv_s, ldi_i, ldi_s, fK_0, fK_s, gfc_O, fS_0, fS_s, uH_s, uH_n, uH_u, tl_s, tl_n, b1_0, b1_1, ite_true, ite_false, if_true, if_false, List.length_nil, List.length_cons, Nat.zero_le, Nat.zero_add, Nat.reduceAdd, Nat.reduceLeDiff, Nat.reduceLT, Nat.reduceEqDiff, Nat.reduceMul, Nat.add_left_cancel_iff, not_false_eq_true, i10, Bool.false_eq_true, z01, ne_eq, not_true_eq_false, not_false_eq_true, or_self, true_or, or_true, false_or, or_false, hc, lp]
      rw [qM_near_147]
      simp only [qM_near_153, jM_near_153, w0, w1, w2i, w2r, w3, w4, w5_0, w5_1, w5_2, w5_3, w5_4, w5_5, w5_6, w5_7, w5_8, w6_0, w6_1, w7_0, w7_1, w7_2, w7_3, w7_4, w7_5, w8_0, w8_1, w9_0, w9_1, w9_2, w10_0, w10_1, w10_2, w10_3, w10_4, w10_5, w11, w12_0, w12_1, w12_2, w12_3, w12_4, w12_5, w13_0, w13_1, w13_2, w13_3, w13_4, w13_5, w14, w15i, w15r, w16, w17, w18, w19i, w19z, w19l, w20, w21, w22, w23, w24, w25, w26, w27, w28_1, w28_2, w28_3, w28_4, w28_5, w28_6, w29, w30i, w30z, w31, w32, w33, w34, w35, w36, w37_1, w37_2, w37_3, w37_4, w37_5, w37_6, isO_O, set1_0, set1_1i, set1_1r, set1_1n, set1_1l, set1_s, set2_0, set2_1i, set2_1r, set2_1n, set2_1l, set2_s, ldv_i, ldv_l, ldv_r, ldv_s, ldi_i, ldi_s, fK_0, fK_s, gfc_O, fS_0, fS_s, uH_s, uH_n, uH_u, tl_s, tl_n, b1_0, b1_1, ite_true, ite_false, if_true, if_false, List.length_nil, List.length_cons, Nat.zero_le, Nat.zero_add, Nat.reduceAdd, Nat.reduceLeDiff, Nat.reduceLT, Nat.reduceEqDiff, Nat.reduceMul, Nat.add_left_cancel_iff, not_false_eq_true, i10, Bool.false_eq_true, z01, ne_eq, not_true_eq_false, not_false_eq_true, or_self, true_or, or_true, false_or, or_false, h39, k2, d39, cp]
      rw [qM_near_193]
      simp only [jM_near_49, w0, w1, w2i, w2r, w3, w4, w5_0, w5_1, w5_2, w5_3, w5_4, w5_5, w5_6, w5_7, w5_8, w6_0, w6_1, w7_0, w7_1, w7_2, w7_3, w7_4, w7_5, w8_0, w8_1, w9_0, w9_1, w9_2, w10_0, w10_1, w10_2, w10_3, w10_4, w10_5, w11, w12_0, w12_1, w12_2, w12_3, w12_4, w12_5, w13_0, w13_1, w13_2, w13_3, w13_4, w13_5, w14, w15i, w15r, w16, w17, w18, w19i, w19z, w19l, w20, w21, w22, w23, w24, w25, w26, w27, w28_1, w28_2, w28_3, w28_4, w28_5, w28_6, w29, w30i, w30z, w31, w32, w33, w34, w35, w36, w37_1, w37_2, w37_3, w37_4, w37_5, w37_6, isO_O, set1_0, set1_1i, set1_1r, set1_1n, set1_1l, set1_s, set2_0, set2_1i, set2_1r, set2_1n, set2_1l, set2_s, ldv_i, ldv_l, ldv_r, ldv_s, ldi_i, ldi_s, fK_0, fK_s, gfc_O, fS_0, fS_s, uH_s, uH_n, uH_u, tl_s, tl_n, b1_0, b1_1, ite_true, ite_false, if_true, if_false, List.length_nil, List.length_cons, Nat.zero_le, Nat.zero_add, Nat.reduceAdd, Nat.reduceLeDiff, Nat.reduceLT, Nat.reduceEqDiff, Nat.reduceMul, Nat.add_left_cancel_iff, not_false_eq_true, i10, Bool.false_eq_true, z01, ne_eq, not_true_eq_false, not_false_eq_true, or_self, true_or, or_true, false_or, or_false, nI_1]
theorem P_near (pe : Int32) : Pr 56 124 [.int pe] := by
  intro h hR
  have hR0 := hR
  obtain ⟨hS, hV1, hV2, hV3, hV4⟩ := hR
  refine RR_case hR0 ?_
  intro m l ik pu ye ki as ow ca sh ah n2 pu2 ye2 ki2 as2 ow2 ca2 sh2 ah2 n3 pu3 ye3 ki3 as3 ow3 ca3 sh3 ah3 be re op sz ab ak ro pt bt fi si th0 la0 le0 it0 th1 la1 le1 it1 th2 la2 le2 it2 th3 la3 le3 it3 ax wr bm kn pr kiM asM owM caM shM tp rd rs rw su abM kp tn td fs ss ig lns szs its mv c0 c1 c2 c3 c4 c5 c6 c7 c8 c9 c10 c11 c12 c13 c14 c15 c16 c17 c18 c19 c20 c21 c22 c23 c24 c25 c26 c27 c28 c29 c30 c31 c32 c33 c34 c35 c36 c37 c38 c39 c40 c41 c42 c43 c44 c45 c46 c47 c48 c49 c50 c51 c52 c53 c54 c55 c56 c57 c58 c59 c60 hRl hTp
  have hm : m ≤ 8 := hRl.1
  have bad : ∀ z : Int32, (∃ x : Int32, some (Value.int z) = some (.int x) ∧ some (Value.int z) = some (.int x)) ∧ RR h := fun z => ⟨⟨_, rfl, rfl⟩, hR0⟩
  by_cases b0 : pe < 0 ∨ 99 < pe
  · simp only [eC_near, qC_near_0, w0, w1, w2i, w2r, w3, w4, w5_0, w5_1, w5_2, w5_3, w5_4, w5_5, w5_6, w5_7, w5_8, w6_0, w6_1, w7_0, w7_1, w7_2, w7_3, w7_4, w7_5, w8_0, w8_1, w9_0, w9_1, w9_2, w10_0, w10_1, w10_2, w10_3, w10_4, w10_5, w11, w12_0, w12_1, w12_2, w12_3, w12_4, w12_5, w13_0, w13_1, w13_2, w13_3, w13_4, w13_5, w14, w15i, w15r, w16, w17, w18, w19i, w19z, w19l, w20, w21, w22, w23, w24, w25, w26, w27, w28_1, w28_2, w28_3, w28_4, w28_5, w28_6, w29, w30i, w30z, w31, w32, w33, w34, w35, w36, w37_1, w37_2, w37_3, w37_4, w37_5, w37_6, isO_O, set1_0, set1_1i, set1_1r, set1_1n, set1_1l, set1_s, set2_0, set2_1i, set2_1r, set2_1n, set2_1l, set2_s, ldv_i, ldv_l, ldv_r, ldv_s, ldi_i, ldi_s, fK_0, fK_s, gfc_O, fS_0, fS_s, uH_s, uH_n, uH_u, tl_s, tl_n, b1_0, b1_1, ite_true, ite_false, if_true, if_false, List.length_nil, List.length_cons, Nat.zero_le, Nat.zero_add, Nat.reduceAdd, Nat.reduceLeDiff, Nat.reduceLT, Nat.reduceEqDiff, Nat.reduceMul, Nat.add_left_cancel_iff, not_false_eq_true, i10, Bool.false_eq_true, z01, ne_eq, not_true_eq_false, not_false_eq_true, or_self, true_or, or_true, false_or, or_false, C_isPence, b0]
    simp only [eM_near, qM_near_0, w0, w1, w2i, w2r, w3, w4, w5_0, w5_1, w5_2, w5_3, w5_4, w5_5, w5_6, w5_7, w5_8, w6_0, w6_1, w7_0, w7_1, w7_2, w7_3, w7_4, w7_5, w8_0, w8_1, w9_0, w9_1, w9_2, w10_0, w10_1, w10_2, w10_3, w10_4, w10_5, w11, w12_0, w12_1, w12_2, w12_3, w12_4, w12_5, w13_0, w13_1, w13_2, w13_3, w13_4, w13_5, w14, w15i, w15r, w16, w17, w18, w19i, w19z, w19l, w20, w21, w22, w23, w24, w25, w26, w27, w28_1, w28_2, w28_3, w28_4, w28_5, w28_6, w29, w30i, w30z, w31, w32, w33, w34, w35, w36, w37_1, w37_2, w37_3, w37_4, w37_5, w37_6, isO_O, set1_0, set1_1i, set1_1r, set1_1n, set1_1l, set1_s, set2_0, set2_1i, set2_1r, set2_1n, set2_1l, set2_s, ldv_i, ldv_l, ldv_r, ldv_s, ldi_i, ldi_s, fK_0, fK_s, gfc_O, fS_0, fS_s, uH_s, uH_n, uH_u, tl_s, tl_n, b1_0, b1_1, ite_true, ite_false, if_true, if_false, List.length_nil, List.length_cons, Nat.zero_le, Nat.zero_add, Nat.reduceAdd, Nat.reduceLeDiff, Nat.reduceLT, Nat.reduceEqDiff, Nat.reduceMul, Nat.add_left_cancel_iff, not_false_eq_true, i10, Bool.false_eq_true, z01, ne_eq, not_true_eq_false, not_false_eq_true, or_self, true_or, or_true, false_or, or_false, M_in, wd0, wd99, b0]; exact bad _
  obtain ⟨h1, k1, d22, d23, d24, d25, n1, s1⟩ := solC (t := 1) (by decide) c22 c23 c24 c25 c1 c2 c3 c6 hm
  obtain ⟨D, D0, D1, De, Me, fd, rr, hA⟩ := rentBoth (pr := pr) (ak := ak) (ro := ro) (rw := rw) (su := su) (ab := ab) (abM := abM) hRl
  rw [De] at d22
  have hr : rcF ki sh m < 256 := rcF_lt ki sh hm
  obtain ⟨h2, k2, d15, d16, d17, d18, d19, d20, n2, s2⟩ := takeT ((n1 15 (by decide)).trans c15) ((n1 1 (by decide)).trans c1) ((n1 16 (by decide)).trans c16) ((n1 2 (by decide)).trans c2) ((n1 17 (by decide)).trans c17) ((n1 3 (by decide)).trans c3) ((n1 18 (by decide)).trans c18) ((n1 4 (by decide)).trans c4) ((n1 19 (by decide)).trans c19) ((n1 5 (by decide)).trans c5) ((n1 20 (by decide)).trans c20) ((n1 6 (by decide)).trans c6)
  have hRt : Rl m pu ye (va_cpy ki ki3 0 0 8) (va_cpy as as3 0 0 8) (va_cpy ow ow3 0 0 8) (va_cpy ca ca3 0 0 8) (va_cpy sh sh3 0 0 64) kiM asM owM caM shM := Rl_cg hRl (fun _ h => cpy8 h) (fun _ h => cpy8 h) (fun _ h => cpy8 h) (fun _ h => cpy8 h) (fun _ h => cpy64 h)
  have d0 := (n1 0 (by decide)).trans c0
  have e0 := (n2 0 (by decide)).trans d0
  obtain ⟨h3, k3, n3, s3⟩ := C_near_loop (as0 := va_cpy as as3 0 0 8) (pe := pe) hm hr 61 0 h2 _ _ (by omega) e0 d15 d16 d17 d19 d20 ((n2 21 (by decide)).trans ((n1 21 (by decide)).trans c21)) ((n2 22 (by decide)).trans d22) ((n2 23 (by decide)).trans d23) (fun _ _ => rfl)
  have n13 : NS SC h h3 := ((n1.m (by decide)).t (n2.m (by decide))).t (n3.m (by decide))
  have f39 := (n13 39 (by decide)).trans c39
  obtain ⟨h4, k4, g39, g50, -, n4, s4⟩ := solM (w := 0) f39 ((n13 40 (by decide)).trans c40) ((n13 41 (by decide)).trans c41) ((n13 44 (by decide)).trans c44) ((n13 48 (by decide)).trans c48) ((n13 49 (by decide)).trans c49) ((n13 50 (by decide)).trans c50) hm (show 0 < 256 by decide) fd
  rw [Me, rr] at g39
  have n14 : NS (SC ++ SM) h h4 := (n13.m (by decide)).t (n4.m (by decide))
  have cp := fun (x3 x4 x5 x6 : Option Value) (Q : Option Value → AH → Prop) => M_near_cp1 (Q := Q) (pe := pe) (x3 := x3) (x4 := x4) (x5 := x5) (x6 := x6) hm m 0 h4 (by omega) g39 ((n14 41 (by decide)).trans c41) (by rw [fa_fill_0]; exact (n4 53 (by decide)).trans ((n13 53 (by decide)).trans c53))
  rw [show nI 0 = 0 from rfl] at cp
  obtain ⟨h5, e5, i53, n5, s5⟩ : ∃ g : AH, g = uH h4 53 (aI 8 (fa_fill asM td m)) ∧ g 53 = aI 8 (fa_fill asM td m) ∧ NS [53] h4 g ∧ (Sh h4 → Sh g) := ⟨_, rfl, uH_s _ _ _, NS.r.u (by decide), fun hS => sh_53 hS⟩
  rw [← e5] at cp
  have n15 : NS (SC ++ SM) h h5 := n14.t (n5.m (by decide))
  have i39 := (n5 39 (by decide)).trans g39
  obtain ⟨h6, k6, n6, s6⟩ := M_near_loop (as0 := va_cpy as as3 0 0 8) (pe := pe) (AB := abF ab (slR ro ki sh m).1 (rcF ki sh m) (opN ki sh m) (slR ro ki sh m).2 (va_cpy as ak 0 0 8) m m) hm hr hRt.2.2.2.1 (fun a ha => (hRt.2.2.2.2.1 a ha).1) (fun a ha => (hRt.2.2.2.2.1 a ha).2.2.2.1) hRt.2.2.2.2.2 (fun x hx => by obtain ⟨A, A1, A2, -⟩ := hA x hx; rw [A1]; exact A2) 61 0 h5 _ _ none none none none (by omega) i39 ((n15 40 (by decide)).trans c40) ((n15 43 (by decide)).trans c43) ((n15 44 (by decide)).trans c44) ((n5 50 (by decide)).trans g50) ((n5 52 (by decide)).trans ((n4 52 (by decide)).trans ((n13 52 (by decide)).trans c52))) i53 (fun x hx => by
    rw [fa_fill_in hx]
    show asM x = va_cpy as as3 0 0 8 x
    rw [cpy8 (by omega)]; exact (hRl.2.2.2.2.1 x hx).2.1)
  have hRR : RR h6 := RR_ns hR0 (s6 (s5 (s4 (s3 (s2 (s1 hS)))))) (n15.t (n6.m (by decide))) c39 ((n6 39 (by decide)).trans i39)
  simp only [show nI 0 = 0 from rfl] at k3 k6
  simp only [eC_near, qC_near_0, jC_near_0, qC_near_9, jC_near_9, qC_near_56, jC_near_56, qC_near_70, jC_near_70, w0, w1, w2i, w2r, w3, w4, w5_0, w5_1, w5_2, w5_3, w5_4, w5_5, w5_6, w5_7, w5_8, w6_0, w6_1, w7_0, w7_1, w7_2, w7_3, w7_4, w7_5, w8_0, w8_1, w9_0, w9_1, w9_2, w10_0, w10_1, w10_2, w10_3, w10_4, w10_5, w11, w12_0, w12_1, w12_2, w12_3, w12_4, w12_5, w13_0, w13_1, w13_2, w13_3, w13_4, w13_5, w14, w15i, w15r, w16, w17, w18, w19i, w19z, w19l, w20, w21, w22, w23, w24, w25, w26, w27, w28_1, w28_2, w28_3, w28_4, w28_5, w28_6, w29, w30i, w30z, w31, w32, w33, w34, w35, w36, w37_1, w37_2, w37_3, w37_4, w37_5, w37_6, isO_O, set1_0, set1_1i, set1_1r, set1_1n, set1_1l, set1_s, set2_0, set2_1i, set2_1r, set2_1n, set2_1l, set2_s, ldv_i, ldv_l, ldv_r, ldv_s, ldi_i, ldi_s, fK_0, fK_s, gfc_O, fS_0, fS_s, uH_s, uH_n, uH_u, tl_s, tl_n, b1_0, b1_1, ite_true, ite_false, if_true, if_false, List.length_nil, List.length_cons, Nat.zero_le, Nat.zero_add, Nat.reduceAdd, Nat.reduceLeDiff, Nat.reduceLT, Nat.reduceEqDiff, Nat.reduceMul, Nat.add_left_cancel_iff, not_false_eq_true, i10, Bool.false_eq_true, z01, ne_eq, not_true_eq_false, not_false_eq_true, or_self, true_or, or_true, false_or, or_false, C_isPence, b0, c0, c1, c22, k1, d0, (n1 15 (by decide)).trans c15, k2, k3]
  simp only [eM_near, qM_near_0, jM_near_0, qM_near_14, jM_near_14, qM_near_47, jM_near_47, w0, w1, w2i, w2r, w3, w4, w5_0, w5_1, w5_2, w5_3, w5_4, w5_5, w5_6, w5_7, w5_8, w6_0, w6_1, w7_0, w7_1, w7_2, w7_3, w7_4, w7_5, w8_0, w8_1, w9_0, w9_1, w9_2, w10_0, w10_1, w10_2, w10_3, w10_4, w10_5, w11, w12_0, w12_1, w12_2, w12_3, w12_4, w12_5, w13_0, w13_1, w13_2, w13_3, w13_4, w13_5, w14, w15i, w15r, w16, w17, w18, w19i, w19z, w19l, w20, w21, w22, w23, w24, w25, w26, w27, w28_1, w28_2, w28_3, w28_4, w28_5, w28_6, w29, w30i, w30z, w31, w32, w33, w34, w35, w36, w37_1, w37_2, w37_3, w37_4, w37_5, w37_6, isO_O, set1_0, set1_1i, set1_1r, set1_1n, set1_1l, set1_s, set2_0, set2_1i, set2_1r, set2_1n, set2_1l, set2_s, ldv_i, ldv_l, ldv_r, ldv_s, ldi_i, ldi_s, fK_0, fK_s, gfc_O, fS_0, fS_s, uH_s, uH_n, uH_u, tl_s, tl_n, b1_0, b1_1, ite_true, ite_false, if_true, if_false, List.length_nil, List.length_cons, Nat.zero_le, Nat.zero_add, Nat.reduceAdd, Nat.reduceLeDiff, Nat.reduceLT, Nat.reduceEqDiff, Nat.reduceMul, Nat.add_left_cancel_iff, not_false_eq_true, i10, Bool.false_eq_true, z01, ne_eq, not_true_eq_false, not_false_eq_true, or_self, true_or, or_true, false_or, or_false, M_in, wd0, wd99, b0, f39, k4, cp, k6]
  exact ⟨⟨_, rfl, rfl⟩, hRR⟩

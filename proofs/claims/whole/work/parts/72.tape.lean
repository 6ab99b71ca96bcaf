/-! the tape: signs, digits, numbers, on both sides -/
def skp (tb : Nat → Nat) : Nat → Nat → Nat
  | 0, p => p
  | d + 1, p => if tb p = 32 then skp tb d (p + 1) else p
def sk (tb : Nat → Nat) (l p : Nat) : Nat := skp tb (l - p) p
def Tb (tb : Nat → Nat) (l : Nat) : Prop := l ≤ 100 ∧ ∀ k, k < l → 32 ≤ tb k ∧ tb k ≤ 126
theorem skp_le (tb : Nat → Nat) : ∀ d p, p ≤ skp tb d p ∧ skp tb d p ≤ p + d
  | 0, p => ⟨Nat.le_refl _, Nat.le_refl _⟩
  | d + 1, p => by
    have ih := skp_le tb d (p + 1)
    rw [skp]
    split
    · omega
    · omega
theorem sk_le {tb : Nat → Nat} {l p : Nat} (hp : p ≤ l) : p ≤ sk tb l p ∧ sk tb l p ≤ l := by
  have := skp_le tb (l - p) p
  unfold sk
  omega
theorem skp_id (tb : Nat → Nat) : ∀ d p, skp tb (p + d - skp tb d p) (skp tb d p) = skp tb d p
  | 0, p => by show skp tb (p + 0 - p) p = p; rw [show p + 0 - p = 0 by omega]; rfl
  | d + 1, p => by
    by_cases h : tb p = 32
    · have e : skp tb (d + 1) p = skp tb d (p + 1) := by rw [skp, if_pos h]
      rw [e, show p + (d + 1) - skp tb d (p + 1) = p + 1 + d - skp tb d (p + 1) by omega]
      exact skp_id tb d (p + 1)
    · have e : skp tb (d + 1) p = p := by rw [skp, if_neg h]
      rw [e, show p + (d + 1) - p = d + 1 by omega]
      exact e
theorem sk_id {tb : Nat → Nat} {l p : Nat} (hp : p ≤ l) : sk tb l (sk tb l p) = sk tb l p := by
  unfold sk
  have := skp_id tb (l - p) p
  rw [show p + (l - p) = l by omega] at this
  exact this
def sgC (tb : Nat → Nat) (l c : Nat) : Int32 := if c < l then nI (tb c) else -1
def sgM (tb : Nat → Nat) (l c : Nat) : Int32 := if c < l then nI (tb c) else 0
theorem n32 {x : Nat} (hx : x ≤ 126) : (nI x = 32) = (x = 32) := propext (nI_eq (b := 32) (by omega) (by decide))
section TAPE
variable {h : AH} {Q : Option Value → AH → Prop} {tb : Nat → Nat} {l : Nat} {bt tp : Nat → Int32} {ho pu ye bo wr : Int32} {be : Int64} {kn pr im : Int32}
theorem pfc_2 {k : Nat} {v0 v1 v2 w : Value} {K : AC → Prop} (hk : k < 3) : pfc (aO 2 [v0, v1, v2]) 2 k w K = K (aO 2 (fS w [v0, v1, v2] k)) := pfc_O hk
theorem P_next_loop (hT : Tb tb l) (hb : ∀ k, k < l → bt k = nI (tb k)) : ∀ (d p : Nat) (h : AH), p + d = l → h 26 = aO 2 [.ref 27, .int (nI l), .int (nI p)] → h 27 = aB 100 bt → Wp none 20 qP_nextSign_0 [some (.ref 26)] [] h Q = Q (some (.int (sgC tb l (skp tb d p)))) (uH h 26 (aO 2 [.ref 27, .int (nI l), .int (nI (skp tb d p))])) := by
  have hl := hT.1
  intro d
  induction d with
  | zero =>
    intro p h hp h26 h27
    have e : p = l := by omega
    subst e
    have hc : nI p ≤ nI p := nI_le (Nat.le_refl p) (by omega)
    simp only [qP_nextSign_0, jP_nextSign_0, qP_nextSign_38, jP_nextSign_38, qP_nextSign_61, jP_nextSign_61, qP_nextSign_62, jP_nextSign_62, w0, w1, w2i, w2r, w3, w4, w5_0, w5_1, w5_2, w5_3, w5_4, w5_5, w5_6, w5_7, w5_8, w6_0, w6_1, w7_0, w7_1, w7_2, w7_3, w7_4, w7_5, w8_0, w8_1, w9_0, w9_1, w9_2, w10_0, w10_1, w10_2, w10_3, w10_4, w10_5, w11, w12_0, w12_1, w12_2, w12_3, w12_4, w12_5, w13_0, w13_1, w13_2, w13_3, w13_4, w13_5, w14, w15i, w15r, w16, w17, w18, w19i, w19z, w19l, w20, w21, w22, w23, w24, w25, w26, w27, w28_1, w28_2, w28_3, w28_4, w28_5, w28_6, w29, w30i, w30z, w31, w32, w33, w34, w35, w36, w37_1, w37_2, w37_3, w37_4, w37_5, w37_6, isO_O, set1_0, set1_1i, set1_1r, set1_1n, set1_1l, set1_s, set2_0, set2_1i, set2_1r, set2_1n, set2_1l, set2_s, ldv_i, ldv_l, ldv_r, ldv_s, ldi_i, ldi_s, fK_0, fK_s, gfc_O, fS_0, fS_s, uH_s, uH_n, uH_u, tl_s, tl_n, b1_0, b1_1, ite_true, ite_false, if_true, if_false, List.length_nil, List.length_cons, Nat.zero_le, Nat.zero_add, Nat.reduceAdd, Nat.reduceLeDiff, Nat.reduceLT, Nat.reduceEqDiff, Nat.reduceMul, Nat.add_left_cancel_iff, not_false_eq_true, h26, hc]
    show _ = Q (some (.int (sgC tb p p))) (uH h 26 (aO 2 [.ref 27, .int (nI p), .int (nI p)]))
    rw [uH_id h h26]
    unfold sgC
    rw [if_neg (by omega)]
  | succ d ih =>
    intro p h hp h26 h27
    have hc : ¬ nI l ≤ nI p := nI_ge (by omega) (by omega)
    have tp' := hT.2 p (by omega)
    by_cases e : tb p = 32
    · have e2 : skp tb (d + 1) p = skp tb d (p + 1) := by rw [skp, if_pos e]
      rw [e2, qP_nextSign_0]
      simp only [jP_nextSign_0, w0, w1, w2i, w2r, w3, w4, w5_0, w5_1, w5_2, w5_3, w5_4, w5_5, w5_6, w5_7, w5_8, w6_0, w6_1, w7_0, w7_1, w7_2, w7_3, w7_4, w7_5, w8_0, w8_1, w9_0, w9_1, w9_2, w10_0, w10_1, w10_2, w10_3, w10_4, w10_5, w11, w12_0, w12_1, w12_2, w12_3, w12_4, w12_5, w13_0, w13_1, w13_2, w13_3, w13_4, w13_5, w14, w15i, w15r, w16, w17, w18, w19i, w19z, w19l, w20, w21, w22, w23, w24, w25, w26, w27, w28_1, w28_2, w28_3, w28_4, w28_5, w28_6, w29, w30i, w30z, w31, w32, w33, w34, w35, w36, w37_1, w37_2, w37_3, w37_4, w37_5, w37_6, isO_O, set1_0, set1_1i, set1_1r, set1_1n, set1_1l, set1_s, set2_0, set2_1i, set2_1r, set2_1n, set2_1l, set2_s, ldv_i, ldv_l, ldv_r, ldv_s, ldi_i, ldi_s, fK_0, fK_s, gfc_O, fS_0, fS_s, uH_s, uH_n, uH_u, tl_s, tl_n, b1_0, b1_1, ite_true, ite_false, if_true, if_false, List.length_nil, List.length_cons, Nat.zero_le, Nat.zero_add, Nat.reduceAdd, Nat.reduceLeDiff, Nat.reduceLT, Nat.reduceEqDiff, Nat.reduceMul, Nat.add_left_cancel_iff, not_false_eq_true, i10, Bool.false_eq_true, z01, ne_eq, not_true_eq_false, not_false_eq_true, or_self, true_or, or_true, false_or, or_false, h26, h27, hc, rBc_n (show p < 100 by omega) (show 100 < 2 ^ 31 by decide), hb p (by omega), n32 (show tb p ≤ 126 by omega), e, show nI 32 = 32 from rfl, pfc_2, nI_1]
      rw [ih (p + 1) _ (by omega) (uH_s _ _ _) (by rw [uH_n _ _ (by decide)]; exact h27), uH_u]
    · have e2 : skp tb (d + 1) p = p := by rw [skp, if_neg e]
      rw [e2]
      simp only [qP_nextSign_0, jP_nextSign_0, qP_nextSign_38, jP_nextSign_38, qP_nextSign_61, jP_nextSign_61, qP_nextSign_62, jP_nextSign_62, w0, w1, w2i, w2r, w3, w4, w5_0, w5_1, w5_2, w5_3, w5_4, w5_5, w5_6, w5_7, w5_8, w6_0, w6_1, w7_0, w7_1, w7_2, w7_3, w7_4, w7_5, w8_0, w8_1, w9_0, w9_1, w9_2, w10_0, w10_1, w10_2, w10_3, w10_4, w10_5, w11, w12_0, w12_1, w12_2, w12_3, w12_4, w12_5, w13_0, w13_1, w13_2, w13_3, w13_4, w13_5, w14, w15i, w15r, w16, w17, w18, w19i, w19z, w19l, w20, w21, w22, w23, w24, w25, w26, w27, w28_1, w28_2, w28_3, w28_4, w28_5, w28_6, w29, w30i, w30z, w31, w32, w33, w34, w35, w36, w37_1, w37_2, w37_3, w37_4, w37_5, w37_6, isO_O, set1_0, set1_1i, set1_1r, set1_1n, set1_1l, set1_s, set2_0, set2_1i, set2_1r, set2_1n, set2_1l, set2_s, ldv_i, ldv_l, ldv_r, ldv_s, ldi_i, ldi_s, fK_0, fK_s, gfc_O, fS_0, fS_s, uH_s, uH_n, uH_u, tl_s, tl_n, b1_0, b1_1, ite_true, ite_false, if_true, if_false, List.length_nil, List.length_cons, Nat.zero_le, Nat.zero_add, Nat.reduceAdd, Nat.reduceLeDiff, Nat.reduceLT, Nat.reduceEqDiff, Nat.reduceMul, Nat.add_left_cancel_iff, not_false_eq_true, i10, Bool.false_eq_true, z01, ne_eq, not_true_eq_false, not_false_eq_true, or_self, true_or, or_true, false_or, or_false, h26, h27, hc, rBc_n (show p < 100 by omega) (show 100 < 2 ^ 31 by decide), hb p (by omega), n32 (show tb p ≤ 126 by omega), e]
      rw [uH_id h h26]
      unfold sgC
      rw [if_pos (by omega)]
theorem nsE {p : Nat} (hT : Tb tb l) (hb : ∀ k, k < l → bt k = nI (tb k)) (hp : p ≤ l) (h26 : h 26 = aO 2 [.ref 27, .int (nI l), .int (nI p)]) (h27 : h 27 = aB 100 bt) : ∃ g : AH, (∀ Q, WpM 20 [.ref 26] h Q = Q (some (.int (sgC tb l (sk tb l p)))) g) ∧ g 26 = aO 2 [.ref 27, .int (nI l), .int (nI (sk tb l p))] ∧ NS [26] h g ∧ (Sh h → Sh g) := by
  refine ⟨uH h 26 (aO 2 [.ref 27, .int (nI l), .int (nI (sk tb l p))]), fun Q => ?_, uH_s _ _ _, NS.r.u (by decide), fun hS => sh_26 hS⟩
  rw [eP_nextSign]
  exact P_next_loop hT hb (l - p) p h (by omega) h26 h27
theorem M_here_loop (hT : Tb tb l) (hb : ∀ k, k < l → tp k = nI (tb k)) : ∀ (d p : Nat) (h : AH), p + d = l → h 39 = mO ho pu ye bo (nI l) (nI p) wr be kn pr im → h 45 = aI 100 tp → Wp none 103 qM_here_0 [some (.ref 39)] [] h Q = Q (some (.int (sgM tb l (skp tb d p)))) (uH h 39 (mO ho pu ye bo (nI l) (nI (skp tb d p)) wr be kn pr im)) := by
  have hl := hT.1
  intro d
  induction d with
  | zero =>
    intro p h hp h39 h45
    have e : p = l := by omega
    subst e
    have hc : nI p ≤ nI p := nI_le (Nat.le_refl p) (by omega)
    simp only [qM_here_0, jM_here_0, qM_here_38, jM_here_38, qM_here_61, jM_here_61, qM_here_62, jM_here_62, w0, w1, w2i, w2r, w3, w4, w5_0, w5_1, w5_2, w5_3, w5_4, w5_5, w5_6, w5_7, w5_8, w6_0, w6_1, w7_0, w7_1, w7_2, w7_3, w7_4, w7_5, w8_0, w8_1, w9_0, w9_1, w9_2, w10_0, w10_1, w10_2, w10_3, w10_4, w10_5, w11, w12_0, w12_1, w12_2, w12_3, w12_4, w12_5, w13_0, w13_1, w13_2, w13_3, w13_4, w13_5, w14, w15i, w15r, w16, w17, w18, w19i, w19z, w19l, w20, w21, w22, w23, w24, w25, w26, w27, w28_1, w28_2, w28_3, w28_4, w28_5, w28_6, w29, w30i, w30z, w31, w32, w33, w34, w35, w36, w37_1, w37_2, w37_3, w37_4, w37_5, w37_6, isO_O, set1_0, set1_1i, set1_1r, set1_1n, set1_1l, set1_s, set2_0, set2_1i, set2_1r, set2_1n, set2_1l, set2_s, ldv_i, ldv_l, ldv_r, ldv_s, ldi_i, ldi_s, fK_0, fK_s, gfc_O, fS_0, fS_s, uH_s, uH_n, uH_u, tl_s, tl_n, b1_0, b1_1, ite_true, ite_false, if_true, if_false, List.length_nil, List.length_cons, Nat.zero_le, Nat.zero_add, Nat.reduceAdd, Nat.reduceLeDiff, Nat.reduceLT, Nat.reduceEqDiff, Nat.reduceMul, Nat.add_left_cancel_iff, not_false_eq_true, h39, hc]
    show _ = Q (some (.int (sgM tb p p))) (uH h 39 (mO ho pu ye bo (nI p) (nI p) wr be kn pr im))
    rw [uH_id h h39]
    unfold sgM
    rw [if_neg (by omega)]
  | succ d ih =>
    intro p h hp h39 h45
    have hc : ¬ nI l ≤ nI p := nI_ge (by omega) (by omega)
    have tp' := hT.2 p (by omega)
    by_cases e : tb p = 32
    · have e2 : skp tb (d + 1) p = skp tb d (p + 1) := by rw [skp, if_pos e]
      rw [e2, qM_here_0]
      simp only [jM_here_0, w0, w1, w2i, w2r, w3, w4, w5_0, w5_1, w5_2, w5_3, w5_4, w5_5, w5_6, w5_7, w5_8, w6_0, w6_1, w7_0, w7_1, w7_2, w7_3, w7_4, w7_5, w8_0, w8_1, w9_0, w9_1, w9_2, w10_0, w10_1, w10_2, w10_3, w10_4, w10_5, w11, w12_0, w12_1, w12_2, w12_3, w12_4, w12_5, w13_0, w13_1, w13_2, w13_3, w13_4, w13_5, w14, w15i, w15r, w16, w17, w18, w19i, w19z, w19l, w20, w21, w22, w23, w24, w25, w26, w27, w28_1, w28_2, w28_3, w28_4, w28_5, w28_6, w29, w30i, w30z, w31, w32, w33, w34, w35, w36, w37_1, w37_2, w37_3, w37_4, w37_5, w37_6, isO_O, set1_0, set1_1i, set1_1r, set1_1n, set1_1l, set1_s, set2_0, set2_1i, set2_1r, set2_1n, set2_1l, set2_s, ldv_i, ldv_l, ldv_r, ldv_s, ldi_i, ldi_s, fK_0, fK_s, gfc_O, fS_0, fS_s, uH_s, uH_n, uH_u, tl_s, tl_n, b1_0, b1_1, ite_true, ite_false, if_true, if_false, List.length_nil, List.length_cons, Nat.zero_le, Nat.zero_add, Nat.reduceAdd, Nat.reduceLeDiff, Nat.reduceLT, Nat.reduceEqDiff, Nat.reduceMul, Nat.add_left_cancel_iff, not_false_eq_true, i10, Bool.false_eq_true, z01, ne_eq, not_true_eq_false, not_false_eq_true, or_self, true_or, or_true, false_or, or_false, h39, h45, hc, rIc_n (show p < 100 by omega) (show 100 < 2 ^ 31 by decide), hb p (by omega), n32 (show tb p ≤ 126 by omega), e, show nI 32 = 32 from rfl, pfc_O, nI_1]
      rw [ih (p + 1) _ (by omega) (uH_s _ _ _) (by rw [uH_n _ _ (by decide)]; exact h45), uH_u]
    · have e2 : skp tb (d + 1) p = p := by rw [skp, if_neg e]
      rw [e2]
      simp only [qM_here_0, jM_here_0, qM_here_38, jM_here_38, qM_here_61, jM_here_61, qM_here_62, jM_here_62, w0, w1, w2i, w2r, w3, w4, w5_0, w5_1, w5_2, w5_3, w5_4, w5_5, w5_6, w5_7, w5_8, w6_0, w6_1, w7_0, w7_1, w7_2, w7_3, w7_4, w7_5, w8_0, w8_1, w9_0, w9_1, w9_2, w10_0, w10_1, w10_2, w10_3, w10_4, w10_5, w11, w12_0, w12_1, w12_2, w12_3, w12_4, w12_5, w13_0, w13_1, w13_2, w13_3, w13_4, w13_5, w14, w15i, w15r, w16, w17, w18, w19i, w19z, w19l, w20, w21, w22, w23, w24, w25, w26, w27, w28_1, w28_2, w28_3, w28_4, w28_5, w28_6, w29, w30i, w30z, w31, w32, w33, w34, w35, w36, w37_1, w37_2, w37_3, w37_4, w37_5, w37_6, isO_O, set1_0, set1_1i, set1_1r, set1_1n, set1_1l, set1_s, set2_0, set2_1i, set2_1r, set2_1n, set2_1l, set2_s, ldv_i, ldv_l, ldv_r, ldv_s, ldi_i, ldi_s, fK_0, fK_s, gfc_O, fS_0, fS_s, uH_s, uH_n, uH_u, tl_s, tl_n, b1_0, b1_1, ite_true, ite_false, if_true, if_false, List.length_nil, List.length_cons, Nat.zero_le, Nat.zero_add, Nat.reduceAdd, Nat.reduceLeDiff, Nat.reduceLT, Nat.reduceEqDiff, Nat.reduceMul, Nat.add_left_cancel_iff, not_false_eq_true, i10, Bool.false_eq_true, z01, ne_eq, not_true_eq_false, not_false_eq_true, or_self, true_or, or_true, false_or, or_false, h39, h45, hc, rIc_n (show p < 100 by omega) (show 100 < 2 ^ 31 by decide), hb p (by omega), n32 (show tb p ≤ 126 by omega), e]
      rw [uH_id h h39]
      unfold sgM
      rw [if_pos (by omega)]
theorem heE {p : Nat} (hT : Tb tb l) (hb : ∀ k, k < l → tp k = nI (tb k)) (hp : p ≤ l) (h39 : h 39 = mO ho pu ye bo (nI l) (nI p) wr be kn pr im) (h45 : h 45 = aI 100 tp) : ∃ g : AH, (∀ Q, WpM 103 [.ref 39] h Q = Q (some (.int (sgM tb l (sk tb l p)))) g) ∧ g 39 = mO ho pu ye bo (nI l) (nI (sk tb l p)) wr be kn pr im ∧ NS [39] h g ∧ (Sh h → Sh g) := by
  refine ⟨uH h 39 (mO ho pu ye bo (nI l) (nI (sk tb l p)) wr be kn pr im), fun Q => ?_, uH_s _ _ _, NS.r.u (by decide), fun hS => sh_39 hS⟩
  rw [eM_here]
  exact M_here_loop hT hb (l - p) p h (by omega) h39 h45
end TAPE
theorem dg_all : ∀ c, c ≤ 126 → ∀ B, B ≤ 10 → (if nI c - 48 < 0 ∨ nI B ≤ nI c - 48 then (-4 : Int32) else nI c - 48) = if 48 ≤ c ∧ c < 48 + B then nI (c - 48) else -4 := by decide +kernel
theorem dg_end : ∀ B, B ≤ 10 → (if (-1 : Int32) - 48 < 0 ∨ nI B ≤ (-1 : Int32) - 48 then (-4 : Int32) else (-1 : Int32) - 48) = -4 := by decide +kernel
/-- a digit below a bound stands there -/
def isD (tb : Nat → Nat) (l B c : Nat) : Prop := c < l ∧ 48 ≤ tb c ∧ tb c < 48 + B
theorem P_dg {h : AH} {Q : Option Value → AH → Prop} {tb : Nat → Nat} {l B c : Nat} (hT : Tb tb l) (hB : B ≤ 10) (hd : isD tb l B c) : WpM 22 [.int (sgC tb l c), .int (nI B)] h Q = Q (some (.int (nI (tb c - 48)))) h := by
  unfold sgC
  rw [if_pos hd.1, P_digitOf, dg_all (tb c) (hT.2 c hd.1).2 B hB, if_pos hd.2]
theorem P_dg0 {h : AH} {Q : Option Value → AH → Prop} {tb : Nat → Nat} {l B c : Nat} (hT : Tb tb l) (hB : B ≤ 10) (hd : ¬ isD tb l B c) : WpM 22 [.int (sgC tb l c), .int (nI B)] h Q = Q (some (.int (-4))) h := by
  unfold sgC
  by_cases hc : c < l
  · rw [if_pos hc, P_digitOf, dg_all (tb c) (hT.2 c hc).2 B hB, if_neg (fun z => hd ⟨hc, z⟩)]
  · rw [if_neg hc, P_digitOf, dg_end B hB]
theorem dg_ne {x : Nat} (hx : x < 256) : ¬ nI x = -4 := nI_n4 hx
section DIGIT
variable {h : AH} {tb : Nat → Nat} {l p : Nat} {bt tp : Nat → Int32} {ho pu ye bo : Int32} {be : Int64} {kn pr im : Int32}
theorem rdE {B : Nat} (hT : Tb tb l) (hb : ∀ k, k < l → bt k = nI (tb k)) (hB : B ≤ 10) (hp : p ≤ l) (h26 : h 26 = aO 2 [.ref 27, .int (nI l), .int (nI p)]) (h27 : h 27 = aB 100 bt) (hd : isD tb l B (sk tb l p)) : ∃ g : AH, (∀ Q, WpM 23 [.ref 26, .int (nI B)] h Q = Q (some (.int (nI (tb (sk tb l p) - 48)))) g) ∧ g 26 = aO 2 [.ref 27, .int (nI l), .int (nI (sk tb l p + 1))] ∧ NS [26] h g ∧ (Sh h → Sh g) := by
  obtain ⟨g, k1, d26, n1, s1⟩ := nsE hT hb hp h26 h27
  have tp' := hT.2 _ hd.1
  refine ⟨uH g 26 (aO 2 [.ref 27, .int (nI l), .int (nI (sk tb l p + 1))]), fun Q => ?_, uH_s _ _ _, n1.t (NS.r.u (by decide)), fun hS => sh_26 (s1 hS)⟩
  rw [eP_readDigit]
  simp only [qP_readDigit_0, jP_readDigit_0, qP_readDigit_25, jP_readDigit_25, w0, w1, w2i, w2r, w3, w4, w5_0, w5_1, w5_2, w5_3, w5_4, w5_5, w5_6, w5_7, w5_8, w6_0, w6_1, w7_0, w7_1, w7_2, w7_3, w7_4, w7_5, w8_0, w8_1, w9_0, w9_1, w9_2, w10_0, w10_1, w10_2, w10_3, w10_4, w10_5, w11, w12_0, w12_1, w12_2, w12_3, w12_4, w12_5, w13_0, w13_1, w13_2, w13_3, w13_4, w13_5, w14, w15i, w15r, w16, w17, w18, w19i, w19z, w19l, w20, w21, w22, w23, w24, w25, w26, w27, w28_1, w28_2, w28_3, w28_4, w28_5, w28_6, w29, w30i, w30z, w31, w32, w33, w34, w35, w36, w37_1, w37_2, w37_3, w37_4, w37_5, w37_6, isO_O, set1_0, set1_1i, set1_1r, set1_1n, set1_1l, set1_s, set2_0, set2_1i, set2_1r, set2_1n, set2_1l, set2_s, ldv_i, ldv_l, ldv_r, ldv_s, ldi_i, ldi_s, fK_0, fK_s, gfc_O, fS_0, fS_s, uH_s, uH_n, uH_u, tl_s, tl_n, b1_0, b1_1, ite_true, ite_false, if_true, if_false, List.length_nil, List.length_cons, Nat.zero_le, Nat.zero_add, Nat.reduceAdd, Nat.reduceLeDiff, Nat.reduceLT, Nat.reduceEqDiff, Nat.reduceMul, Nat.add_left_cancel_iff, not_false_eq_true, i10, Bool.false_eq_true, z01, ne_eq, not_true_eq_false, not_false_eq_true, or_self, true_or, or_true, false_or, or_false, h26, k1, P_dg hT hB hd, dg_ne (show tb (sk tb l p) - 48 < 256 by omega), d26, pfc_2, nI_1]
theorem rdE0 {B : Nat} (hT : Tb tb l) (hb : ∀ k, k < l → bt k = nI (tb k)) (hB : B ≤ 10) (hp : p ≤ l) (h26 : h 26 = aO 2 [.ref 27, .int (nI l), .int (nI p)]) (h27 : h 27 = aB 100 bt) (hd : ¬ isD tb l B (sk tb l p)) : ∃ g : AH, (∀ Q, WpM 23 [.ref 26, .int (nI B)] h Q = Q (some (.int (-4))) g) ∧ g 26 = aO 2 [.ref 27, .int (nI l), .int (nI (sk tb l p))] ∧ NS [26] h g ∧ (Sh h → Sh g) := by
  obtain ⟨g, k1, d26, n1, s1⟩ := nsE hT hb hp h26 h27
  refine ⟨g, fun Q => ?_, d26, n1, s1⟩
  rw [eP_readDigit]
  simp only [qP_readDigit_0, jP_readDigit_0, qP_readDigit_25, jP_readDigit_25, w0, w1, w2i, w2r, w3, w4, w5_0, w5_1, w5_2, w5_3, w5_4, w5_5, w5_6, w5_7, w5_8, w6_0, w6_1, w7_0, w7_1, w7_2, w7_3, w7_4, w7_5, w8_0, w8_1, w9_0, w9_1, w9_2, w10_0, w10_1, w10_2, w10_3, w10_4, w10_5, w11, w12_0, w12_1, w12_2, w12_3, w12_4, w12_5, w13_0, w13_1, w13_2, w13_3, w13_4, w13_5, w14, w15i, w15r, w16, w17, w18, w19i, w19z, w19l, w20, w21, w22, w23, w24, w25, w26, w27, w28_1, w28_2, w28_3, w28_4, w28_5, w28_6, w29, w30i, w30z, w31, w32, w33, w34, w35, w36, w37_1, w37_2, w37_3, w37_4, w37_5, w37_6, isO_O, set1_0, set1_1i, set1_1r, set1_1n, set1_1l, set1_s, set2_0, set2_1i, set2_1r, set2_1n, set2_1l, set2_s, ldv_i, ldv_l, ldv_r, ldv_s, ldi_i, ldi_s, fK_0, fK_s, gfc_O, fS_0, fS_s, uH_s, uH_n, uH_u, tl_s, tl_n, b1_0, b1_1, ite_true, ite_false, if_true, if_false, List.length_nil, List.length_cons, Nat.zero_le, Nat.zero_add, Nat.reduceAdd, Nat.reduceLeDiff, Nat.reduceLT, Nat.reduceEqDiff, Nat.reduceMul, Nat.add_left_cancel_iff, not_false_eq_true, i10, Bool.false_eq_true, z01, ne_eq, not_true_eq_false, not_false_eq_true, or_self, true_or, or_true, false_or, or_false, h26, k1, P_dg0 hT hB hd, i44]
/-- the reference wants a sign of a range -/
theorem muE {lo hi : Nat} (hT : Tb tb l) (hb : ∀ k, k < l → tp k = nI (tb k)) (hlo : 1 ≤ lo ∧ hi ≤ 126) (hp : p ≤ l) (h39 : h 39 = mO ho pu ye bo (nI l) (nI p) 0 be kn pr im) (h45 : h 45 = aI 100 tp) (hd : sk tb l p < l ∧ lo ≤ tb (sk tb l p) ∧ tb (sk tb l p) ≤ hi) : ∃ g : AH, (∀ Q, WpM 105 [.ref 39, .int (nI lo), .int (nI hi)] h Q = Q (some (.int (nI (tb (sk tb l p) - lo)))) g) ∧ g 39 = mO ho pu ye bo (nI l) (nI (sk tb l p + 1)) 0 be kn pr im ∧ NS [39] h g ∧ (Sh h → Sh g) := by
  obtain ⟨g, k1, d39, n1, s1⟩ := heE hT hb hp h39 h45
  have sg : sgM tb l (sk tb l p) = nI (tb (sk tb l p)) := if_pos hd.1
  have nin : ¬ ((nI (tb (sk tb l p))).toInt64 < (nI lo).toInt64 ∨ (nI hi).toInt64 < (nI (tb (sk tb l p))).toInt64) := by
    rw [fa_wide_lt, fa_wide_lt, fa_lt, fa_lt, nI_toInt (by omega), nI_toInt (by omega), nI_toInt (by omega)]
    omega
  have sub : nI (tb (sk tb l p)) - nI lo = nI (tb (sk tb l p) - lo) := pk_sub hd.2.1
  refine ⟨uH g 39 (mO ho pu ye bo (nI l) (nI (sk tb l p + 1)) 0 be kn pr im), fun Q => ?_, uH_s _ _ _, n1.t (NS.r.u (by decide)), fun hS => sh_39 (s1 hS)⟩
  rw [eM_must]
  simp only [qM_must_0, jM_must_0, qM_must_11, jM_must_11, qM_must_15, jM_must_15, qM_must_36, jM_must_36, qM_must_40, jM_must_40, qM_must_41, jM_must_41, qM_must_60, jM_must_60, qM_must_61, jM_must_61, w0, w1, w2i, w2r, w3, w4, w5_0, w5_1, w5_2, w5_3, w5_4, w5_5, w5_6, w5_7, w5_8, w6_0, w6_1, w7_0, w7_1, w7_2, w7_3, w7_4, w7_5, w8_0, w8_1, w9_0, w9_1, w9_2, w10_0, w10_1, w10_2, w10_3, w10_4, w10_5, w11, w12_0, w12_1, w12_2, w12_3, w12_4, w12_5, w13_0, w13_1, w13_2, w13_3, w13_4, w13_5, w14, w15i, w15r, w16, w17, w18, w19i, w19z, w19l, w20, w21, w22, w23, w24, w25, w26, w27, w28_1, w28_2, w28_3, w28_4, w28_5, w28_6, w29, w30i, w30z, w31, w32, w33, w34, w35, w36, w37_1, w37_2, w37_3, w37_4, w37_5, w37_6, isO_O, set1_0, set1_1i, set1_1r, set1_1n, set1_1l, set1_s, set2_0, set2_1i, set2_1r, set2_1n, set2_1l, set2_s, ldv_i, ldv_l, ldv_r, ldv_s, ldi_i, ldi_s, fK_0, fK_s, gfc_O, fS_0, fS_s, uH_s, uH_n, uH_u, tl_s, tl_n, b1_0, b1_1, ite_true, ite_false, if_true, if_false, List.length_nil, List.length_cons, Nat.zero_le, Nat.zero_add, Nat.reduceAdd, Nat.reduceLeDiff, Nat.reduceLT, Nat.reduceEqDiff, Nat.reduceMul, Nat.add_left_cancel_iff, not_false_eq_true, i10, Bool.false_eq_true, z01, ne_eq, not_true_eq_false, not_false_eq_true, or_self, true_or, or_true, false_or, or_false, h39, k1, sg, d39, M_in, nin, pfc_O, nI_1, sub]
theorem muE0 {lo hi : Nat} (hT : Tb tb l) (hb : ∀ k, k < l → tp k = nI (tb k)) (hlo : 1 ≤ lo ∧ lo ≤ 126 ∧ hi ≤ 126) (hp : p ≤ l) (h39 : h 39 = mO ho pu ye bo (nI l) (nI p) 0 be kn pr im) (h45 : h 45 = aI 100 tp) (hd : ¬ (sk tb l p < l ∧ lo ≤ tb (sk tb l p) ∧ tb (sk tb l p) ≤ hi)) : ∃ (g : AH) (z : Int32), (∀ Q, WpM 105 [.ref 39, .int (nI lo), .int (nI hi)] h Q = Q (some (.int z)) g) ∧ g 39 = mO ho pu ye bo (nI l) (nI (sk tb l p)) 1 be kn pr im ∧ NS [39] h g ∧ (Sh h → Sh g) := by
  obtain ⟨g, k1, d39, n1, s1⟩ := heE hT hb hp h39 h45
  have nin : (sgM tb l (sk tb l p)).toInt64 < (nI lo).toInt64 ∨ (nI hi).toInt64 < (sgM tb l (sk tb l p)).toInt64 := by
    unfold sgM
    rw [fa_wide_lt, fa_wide_lt, fa_lt, fa_lt, nI_toInt (by omega), nI_toInt (by omega)]
    by_cases c : sk tb l p < l
    · have := hT.2 _ c
      rw [if_pos c, nI_toInt (by omega)]
      omega
    · rw [if_neg c]
      have : (0 : Int32).toInt = 0 := rfl
      omega
  refine ⟨uH g 39 (mO ho pu ye bo (nI l) (nI (sk tb l p)) 1 be kn pr im), sgM tb l (sk tb l p) - nI lo, fun Q => ?_, uH_s _ _ _, n1.t (NS.r.u (by decide)), fun hS => sh_39 (s1 hS)⟩
  rw [eM_must]
  simp only [qM_must_0, jM_must_0, qM_must_11, jM_must_11, qM_must_15, jM_must_15, qM_must_36, jM_must_36, qM_must_40, jM_must_40, qM_must_41, jM_must_41, qM_must_60, jM_must_60, qM_must_61, jM_must_61, w0, w1, w2i, w2r, w3, w4, w5_0, w5_1, w5_2, w5_3, w5_4, w5_5, w5_6, w5_7, w5_8, w6_0, w6_1, w7_0, w7_1, w7_2, w7_3, w7_4, w7_5, w8_0, w8_1, w9_0, w9_1, w9_2, w10_0, w10_1, w10_2, w10_3, w10_4, w10_5, w11, w12_0, w12_1, w12_2, w12_3, w12_4, w12_5, w13_0, w13_1, w13_2, w13_3, w13_4, w13_5, w14, w15i, w15r, w16, w17, w18, w19i, w19z, w19l, w20, w21, w22, w23, w24, w25, w26, w27, w28_1, w28_2, w28_3, w28_4, w28_5, w28_6, w29, w30i, w30z, w31, w32, w33, w34, w35, w36, w37_1, w37_2, w37_3, w37_4, w37_5, w37_6, isO_O, set1_0, set1_1i, set1_1r, set1_1n, set1_1l, set1_s, set2_0, set2_1i, set2_1r, set2_1n, set2_1l, set2_s, ldv_i, ldv_l, ldv_r, ldv_s, ldi_i, ldi_s, fK_0, fK_s, gfc_O, fS_0, fS_s, uH_s, uH_n, uH_u, tl_s, tl_n, b1_0, b1_1, ite_true, ite_false, if_true, if_false, List.length_nil, List.length_cons, Nat.zero_le, Nat.zero_add, Nat.reduceAdd, Nat.reduceLeDiff, Nat.reduceLT, Nat.reduceEqDiff, Nat.reduceMul, Nat.add_left_cancel_iff, not_false_eq_true, i10, Bool.false_eq_true, z01, ne_eq, not_true_eq_false, not_false_eq_true, or_self, true_or, or_true, false_or, or_false, h39, k1, d39, M_in, nin, pfc_O, add0]
theorem muW {lo hi : Int32} {at' : Int32} (h39 : h 39 = mO ho pu ye bo (nI l) at' 1 be kn pr im) : ∃ (g : AH) (z : Int32), (∀ Q, WpM 105 [.ref 39, .int lo, .int hi] h Q = Q (some (.int z)) g) ∧ g 39 = mO ho pu ye bo (nI l) at' 1 be kn pr im ∧ NS [39] h g ∧ (Sh h → Sh g) := by
  refine ⟨uH h 39 (mO ho pu ye bo (nI l) at' 1 be kn pr im), 0 - lo, fun Q => ?_, uH_s _ _ _, NS.r.u (by decide), fun hS => sh_39 hS⟩
  rw [eM_must]
  simp only [qM_must_0, jM_must_0, qM_must_11, jM_must_11, qM_must_15, jM_must_15, qM_must_36, jM_must_36, qM_must_40, jM_must_40, qM_must_41, jM_must_41, qM_must_60, jM_must_60, qM_must_61, jM_must_61, w0, w1, w2i, w2r, w3, w4, w5_0, w5_1, w5_2, w5_3, w5_4, w5_5, w5_6, w5_7, w5_8, w6_0, w6_1, w7_0, w7_1, w7_2, w7_3, w7_4, w7_5, w8_0, w8_1, w9_0, w9_1, w9_2, w10_0, w10_1, w10_2, w10_3, w10_4, w10_5, w11, w12_0, w12_1, w12_2, w12_3, w12_4, w12_5, w13_0, w13_1, w13_2, w13_3, w13_4, w13_5, w14, w15i, w15r, w16, w17, w18, w19i, w19z, w19l, w20, w21, w22, w23, w24, w25, w26, w27, w28_1, w28_2, w28_3, w28_4, w28_5, w28_6, w29, w30i, w30z, w31, w32, w33, w34, w35, w36, w37_1, w37_2, w37_3, w37_4, w37_5, w37_6, isO_O, set1_0, set1_1i, set1_1r, set1_1n, set1_1l, set1_s, set2_0, set2_1i, set2_1r, set2_1n, set2_1l, set2_s, ldv_i, ldv_l, ldv_r, ldv_s, ldi_i, ldi_s, fK_0, fK_s, gfc_O, fS_0, fS_s, uH_s, uH_n, uH_u, tl_s, tl_n, b1_0, b1_1, ite_true, ite_false, if_true, if_false, List.length_nil, List.length_cons, Nat.zero_le, Nat.zero_add, Nat.reduceAdd, Nat.reduceLeDiff, Nat.reduceLT, Nat.reduceEqDiff, Nat.reduceMul, Nat.add_left_cancel_iff, not_false_eq_true, i10, Bool.false_eq_true, z01, ne_eq, not_true_eq_false, not_false_eq_true, or_self, true_or, or_true, false_or, or_false, h39, pfc_O, add0]
theorem haE {c : Nat} (hT : Tb tb l) (hb : ∀ k, k < l → tp k = nI (tb k)) (hc : 1 ≤ c ∧ c ≤ 126) (hp : p ≤ l) (h39 : h 39 = mO ho pu ye bo (nI l) (nI p) 0 be kn pr im) (h45 : h 45 = aI 100 tp) (hd : sk tb l p < l ∧ tb (sk tb l p) = c) : ∃ g : AH, (∀ Q, WpM 104 [.ref 39, .int (nI c)] h Q = Q (some (.int 1)) g) ∧ g 39 = mO ho pu ye bo (nI l) (nI (sk tb l p + 1)) 0 be kn pr im ∧ NS [39] h g ∧ (Sh h → Sh g) := by
  obtain ⟨g, k1, d39, n1, s1⟩ := heE hT hb hp h39 h45
  have sg : sgM tb l (sk tb l p) = nI c := by unfold sgM; rw [if_pos hd.1, hd.2]
  refine ⟨uH g 39 (mO ho pu ye bo (nI l) (nI (sk tb l p + 1)) 0 be kn pr im), fun Q => ?_, uH_s _ _ _, n1.t (NS.r.u (by decide)), fun hS => sh_39 (s1 hS)⟩
  rw [eM_has]
  simp only [qM_has_0, jM_has_0, qM_has_19, jM_has_19, qM_has_20, jM_has_20, qM_has_34, jM_has_34, qM_has_35, jM_has_35, w0, w1, w2i, w2r, w3, w4, w5_0, w5_1, w5_2, w5_3, w5_4, w5_5, w5_6, w5_7, w5_8, w6_0, w6_1, w7_0, w7_1, w7_2, w7_3, w7_4, w7_5, w8_0, w8_1, w9_0, w9_1, w9_2, w10_0, w10_1, w10_2, w10_3, w10_4, w10_5, w11, w12_0, w12_1, w12_2, w12_3, w12_4, w12_5, w13_0, w13_1, w13_2, w13_3, w13_4, w13_5, w14, w15i, w15r, w16, w17, w18, w19i, w19z, w19l, w20, w21, w22, w23, w24, w25, w26, w27, w28_1, w28_2, w28_3, w28_4, w28_5, w28_6, w29, w30i, w30z, w31, w32, w33, w34, w35, w36, w37_1, w37_2, w37_3, w37_4, w37_5, w37_6, isO_O, set1_0, set1_1i, set1_1r, set1_1n, set1_1l, set1_s, set2_0, set2_1i, set2_1r, set2_1n, set2_1l, set2_s, ldv_i, ldv_l, ldv_r, ldv_s, ldi_i, ldi_s, fK_0, fK_s, gfc_O, fS_0, fS_s, uH_s, uH_n, uH_u, tl_s, tl_n, b1_0, b1_1, ite_true, ite_false, if_true, if_false, List.length_nil, List.length_cons, Nat.zero_le, Nat.zero_add, Nat.reduceAdd, Nat.reduceLeDiff, Nat.reduceLT, Nat.reduceEqDiff, Nat.reduceMul, Nat.add_left_cancel_iff, not_false_eq_true, i10, Bool.false_eq_true, z01, ne_eq, not_true_eq_false, not_false_eq_true, or_self, true_or, or_true, false_or, or_false, h39, k1, sg, d39, pfc_O, nI_1]
theorem haE0 {c : Nat} (hT : Tb tb l) (hb : ∀ k, k < l → tp k = nI (tb k)) (hc : 1 ≤ c ∧ c ≤ 126) (hp : p ≤ l) (h39 : h 39 = mO ho pu ye bo (nI l) (nI p) 0 be kn pr im) (h45 : h 45 = aI 100 tp) (hd : ¬ (sk tb l p < l ∧ tb (sk tb l p) = c)) : ∃ g : AH, (∀ Q, WpM 104 [.ref 39, .int (nI c)] h Q = Q (some (.int 0)) g) ∧ g 39 = mO ho pu ye bo (nI l) (nI (sk tb l p)) 0 be kn pr im ∧ NS [39] h g ∧ (Sh h → Sh g) := by
  obtain ⟨g, k1, d39, n1, s1⟩ := heE hT hb hp h39 h45
  have sg : ¬ sgM tb l (sk tb l p) = nI c := by
    unfold sgM
    by_cases z : sk tb l p < l
    · have := hT.2 _ z
      rw [if_pos z, nI_eq (by omega) (by omega)]
      exact fun y => hd ⟨z, y⟩
    · rw [if_neg z, show (0 : Int32) = nI 0 from rfl, nI_eq (by omega) (by omega)]
      omega
  refine ⟨uH g 39 (mO ho pu ye bo (nI l) (nI (sk tb l p)) 0 be kn pr im), fun Q => ?_, uH_s _ _ _, n1.t (NS.r.u (by decide)), fun hS => sh_39 (s1 hS)⟩
  rw [eM_has]
  simp only [qM_has_0, jM_has_0, qM_has_19, jM_has_19, qM_has_20, jM_has_20, qM_has_34, jM_has_34, qM_has_35, jM_has_35, w0, w1, w2i, w2r, w3, w4, w5_0, w5_1, w5_2, w5_3, w5_4, w5_5, w5_6, w5_7, w5_8, w6_0, w6_1, w7_0, w7_1, w7_2, w7_3, w7_4, w7_5, w8_0, w8_1, w9_0, w9_1, w9_2, w10_0, w10_1, w10_2, w10_3, w10_4, w10_5, w11, w12_0, w12_1, w12_2, w12_3, w12_4, w12_5, w13_0, w13_1, w13_2, w13_3, w13_4, w13_5, w14, w15i, w15r, w16, w17, w18, w19i, w19z, w19l, w20, w21, w22, w23, w24, w25, w26, w27, w28_1, w28_2, w28_3, w28_4, w28_5, w28_6, w29, w30i, w30z, w31, w32, w33, w34, w35, w36, w37_1, w37_2, w37_3, w37_4, w37_5, w37_6, isO_O, set1_0, set1_1i, set1_1r, set1_1n, set1_1l, set1_s, set2_0, set2_1i, set2_1r, set2_1n, set2_1l, set2_s, ldv_i, ldv_l, ldv_r, ldv_s, ldi_i, ldi_s, fK_0, fK_s, gfc_O, fS_0, fS_s, uH_s, uH_n, uH_u, tl_s, tl_n, b1_0, b1_1, ite_true, ite_false, if_true, if_false, List.length_nil, List.length_cons, Nat.zero_le, Nat.zero_add, Nat.reduceAdd, Nat.reduceLeDiff, Nat.reduceLT, Nat.reduceEqDiff, Nat.reduceMul, Nat.add_left_cancel_iff, not_false_eq_true, i10, Bool.false_eq_true, z01, ne_eq, not_true_eq_false, not_false_eq_true, or_self, true_or, or_true, false_or, or_false, h39, k1, sg, d39, pfc_O, add0]
theorem haW {c : Int32} {at' : Int32} (h39 : h 39 = mO ho pu ye bo (nI l) at' 1 be kn pr im) : ∃ g : AH, (∀ Q, WpM 104 [.ref 39, .int c] h Q = Q (some (.int 0)) g) ∧ g 39 = mO ho pu ye bo (nI l) at' 1 be kn pr im ∧ NS [39] h g ∧ (Sh h → Sh g) := by
  refine ⟨uH h 39 (mO ho pu ye bo (nI l) at' 1 be kn pr im), fun Q => ?_, uH_s _ _ _, NS.r.u (by decide), fun hS => sh_39 hS⟩
  rw [eM_has]
  simp only [qM_has_0, jM_has_0, qM_has_19, jM_has_19, qM_has_20, jM_has_20, qM_has_34, jM_has_34, qM_has_35, jM_has_35, w0, w1, w2i, w2r, w3, w4, w5_0, w5_1, w5_2, w5_3, w5_4, w5_5, w5_6, w5_7, w5_8, w6_0, w6_1, w7_0, w7_1, w7_2, w7_3, w7_4, w7_5, w8_0, w8_1, w9_0, w9_1, w9_2, w10_0, w10_1, w10_2, w10_3, w10_4, w10_5, w11, w12_0, w12_1, w12_2, w12_3, w12_4, w12_5, w13_0, w13_1, w13_2, w13_3, w13_4, w13_5, w14, w15i, w15r, w16, w17, w18, w19i, w19z, w19l, w20, w21, w22, w23, w24, w25, w26, w27, w28_1, w28_2, w28_3, w28_4, w28_5, w28_6, w29, w30i, w30z, w31, w32, w33, w34, w35, w36, w37_1, w37_2, w37_3, w37_4, w37_5, w37_6, isO_O, set1_0, set1_1i, set1_1r, set1_1n, set1_1l, set1_s, set2_0, set2_1i, set2_1r, set2_1n, set2_1l, set2_s, ldv_i, ldv_l, ldv_r, ldv_s, ldi_i, ldi_s, fK_0, fK_s, gfc_O, fS_0, fS_s, uH_s, uH_n, uH_u, tl_s, tl_n, b1_0, b1_1, ite_true, ite_false, if_true, if_false, List.length_nil, List.length_cons, Nat.zero_le, Nat.zero_add, Nat.reduceAdd, Nat.reduceLeDiff, Nat.reduceLT, Nat.reduceEqDiff, Nat.reduceMul, Nat.add_left_cancel_iff, not_false_eq_true, i10, Bool.false_eq_true, z01, ne_eq, not_true_eq_false, not_false_eq_true, or_self, true_or, or_true, false_or, or_false, h39, pfc_O, add0]
end DIGIT
